/-! stub -/
theorem o_library {X : xS} {h : xH} (H : xREL X h) : opR X h m_X11_library m_X12_library [.ref 16, xU] [.ref 169, xU, xU] := by
  sorry
