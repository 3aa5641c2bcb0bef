/-! what the tables say, printed by wip/whole/gen_memb.py -/
theorem xin_X0 : ∀ w ∈ u_ws RX0 TX0 2, w ∈ xWg := fun w h => xmem ((by decide +kernel : ∀ w ∈ u_ws RX0 TX0 2, w ∈ lw_tbl) w h) ((by decide +kernel : ∀ w ∈ u_ws RX0 TX0 2, goodWord w = true) w h)
theorem xin_X1 : ∀ w ∈ u_ws RX1 TX1 2, w ∈ xWg := fun w h => xmem ((by decide +kernel : ∀ w ∈ u_ws RX1 TX1 2, w ∈ lw_tbl) w h) ((by decide +kernel : ∀ w ∈ u_ws RX1 TX1 2, goodWord w = true) w h)
theorem xin_X2 : ∀ w ∈ u_ws RX2 TX2 2, w ∈ xWg := fun w h => xmem ((by decide +kernel : ∀ w ∈ u_ws RX2 TX2 2, w ∈ lw_tbl) w h) ((by decide +kernel : ∀ w ∈ u_ws RX2 TX2 2, goodWord w = true) w h)
theorem xin_X3 : ∀ w ∈ u_ws RX3 TX3 6, w ∈ xWg := fun w h => xmem ((by decide +kernel : ∀ w ∈ u_ws RX3 TX3 6, w ∈ lw_tbl) w h) ((by decide +kernel : ∀ w ∈ u_ws RX3 TX3 6, goodWord w = true) w h)
theorem xin_X4 : ∀ w ∈ u_ws RX4 TX4 2, w ∈ xWg := fun w h => xmem ((by decide +kernel : ∀ w ∈ u_ws RX4 TX4 2, w ∈ lw_tbl) w h) ((by decide +kernel : ∀ w ∈ u_ws RX4 TX4 2, goodWord w = true) w h)
theorem xin_X6 : ∀ w ∈ u_ws RX6 TX6 5, w ∈ xWg := fun w h => xmem ((by decide +kernel : ∀ w ∈ u_ws RX6 TX6 5, w ∈ lw_tbl) w h) ((by decide +kernel : ∀ w ∈ u_ws RX6 TX6 5, goodWord w = true) w h)
theorem xin_X7 : ∀ w ∈ u_ws RX7 TX7 8, w ∈ xWg := fun w h => xmem ((by decide +kernel : ∀ w ∈ u_ws RX7 TX7 8, w ∈ lw_tbl) w h) ((by decide +kernel : ∀ w ∈ u_ws RX7 TX7 8, goodWord w = true) w h)
theorem xin_X8 : ∀ w ∈ u_ws RX8 TX8 3, w ∈ xWg := fun w h => xmem ((by decide +kernel : ∀ w ∈ u_ws RX8 TX8 3, w ∈ lw_tbl) w h) ((by decide +kernel : ∀ w ∈ u_ws RX8 TX8 3, goodWord w = true) w h)
theorem xin_X9 : ∀ w ∈ u_ws RX9 TX9 2, w ∈ xWg := fun w h => xmem ((by decide +kernel : ∀ w ∈ u_ws RX9 TX9 2, w ∈ lw_tbl) w h) ((by decide +kernel : ∀ w ∈ u_ws RX9 TX9 2, goodWord w = true) w h)
theorem xin_X10 : ∀ w ∈ u_ws RX10 TX10 2, w ∈ xWg := fun w h => xmem ((by decide +kernel : ∀ w ∈ u_ws RX10 TX10 2, w ∈ lw_tbl) w h) ((by decide +kernel : ∀ w ∈ u_ws RX10 TX10 2, goodWord w = true) w h)
theorem xin_X11 : ∀ w ∈ u_ws RX11 TX11 11, w ∈ xWg := fun w h => xmem ((by decide +kernel : ∀ w ∈ u_ws RX11 TX11 11, w ∈ lw_tbl) w h) ((by decide +kernel : ∀ w ∈ u_ws RX11 TX11 11, goodWord w = true) w h)
theorem xin_X12 : ∀ w ∈ u_ws RX12 TX12 25, w ∈ xWg := fun w h => xmem ((by decide +kernel : ∀ w ∈ u_ws RX12 TX12 25, w ∈ lw_tbl) w h) ((by decide +kernel : ∀ w ∈ u_ws RX12 TX12 25, goodWord w = true) w h)
theorem xft_0 : ∀ v, xtyp 0 v = true → narrow .int v = v ∧ fits .int v = true := by
  intro v h
  cases v <;> first | exact ⟨rfl, rfl⟩ | cases h
theorem xft_1 : ∀ v, xtyp 1 v = true → narrow .long v = v ∧ fits .long v = true := by
  intro v h
  cases v <;> first | exact ⟨rfl, rfl⟩ | cases h
theorem xft_o {C : String} : ∀ v, xtyp 2 v = true → narrow (.object C) v = v ∧ fits (.object C) v = true := by
  intro v h
  cases v <;> first | exact ⟨rfl, rfl⟩ | cases h
theorem xft_a {t : FieldType} : ∀ v, xtyp 2 v = true → narrow (.array t) v = v ∧ fits (.array t) v = true := by
  intro v h
  cases v <;> first | exact ⟨rfl, rfl⟩ | cases h
theorem xf_3_9_3 : xF 3 9 3 2 := ⟨RX3, TX3, 6, tyX3, rfl, by decide, xin_X3, tyX3_ok, nmX3, Or.inl ⟨xw_0, rfl, fun q h => by cases h <;> rfl⟩, xft_a⟩
theorem xf_3_15_3 : xF 3 15 3 3 := ⟨RX3, TX3, 6, tyX3, rfl, by decide, xin_X3, tyX3_ok, nmX3, Or.inl ⟨xw_1, rfl, fun q h => by cases h <;> rfl⟩, xft_a⟩
theorem xf_3_18_3 : xF 3 18 3 4 := ⟨RX3, TX3, 6, tyX3, rfl, by decide, xin_X3, tyX3_ok, nmX3, Or.inl ⟨xw_2, rfl, fun q h => by cases h <;> rfl⟩, xft_a⟩
theorem xf_3_21_3 : xF 3 21 3 5 := ⟨RX3, TX3, 6, tyX3, rfl, by decide, xin_X3, tyX3_ok, nmX3, Or.inl ⟨xw_3, rfl, fun q h => by cases h <;> rfl⟩, xft_a⟩
theorem xf_3_24_3 : xF 3 24 3 0 := ⟨RX3, TX3, 6, tyX3, rfl, by decide, xin_X3, tyX3_ok, nmX3, Or.inl ⟨xw_4, rfl, fun q h => by cases h <;> rfl⟩, xft_o⟩
theorem xf_3_28_3 : xF 3 28 3 1 := ⟨RX3, TX3, 6, tyX3, rfl, by decide, xin_X3, tyX3_ok, nmX3, Or.inl ⟨xw_5, rfl, fun q h => by cases h <;> rfl⟩, xft_0⟩
theorem xf_3_38_5 : xF 3 38 5 1 := ⟨RX6, TX6, 5, tyX6, rfl, by decide, xin_X6, tyX6_ok, nmX6, Or.inr (Or.inl ⟨rfl, rfl, "DustReads", by decide +kernel⟩), xft_0⟩
theorem xf_3_43_5 : xF 3 43 5 4 := ⟨RX6, TX6, 5, tyX6, rfl, by decide, xin_X6, tyX6_ok, nmX6, Or.inr (Or.inl ⟨rfl, rfl, "DustReads", by decide +kernel⟩), xft_0⟩
theorem xf_3_54_5 : xF 3 54 5 0 := ⟨RX6, TX6, 5, tyX6, rfl, by decide, xin_X6, tyX6_ok, nmX6, Or.inr (Or.inr ⟨⟨6, rfl, by decide⟩, "DustReads", by decide +kernel⟩), xft_a⟩
theorem xf_3_94_0 : xF 3 94 0 1 := ⟨RX0, TX0, 2, tyX0, rfl, by decide, xin_X0, tyX0_ok, nmX0, Or.inl ⟨xw_6, rfl, fun q h => by cases h <;> rfl⟩, xft_0⟩
theorem xf_3_94_1 : xF 3 94 1 1 := ⟨RX1, TX1, 2, tyX1, rfl, by decide, xin_X1, tyX1_ok, nmX1, Or.inl ⟨xw_6, rfl, fun q h => by cases h <;> rfl⟩, xft_0⟩
theorem xf_3_94_2 : xF 3 94 2 1 := ⟨RX2, TX2, 2, tyX2, rfl, by decide, xin_X2, tyX2_ok, nmX2, Or.inl ⟨xw_6, rfl, fun q h => by cases h <;> rfl⟩, xft_0⟩
theorem xf_3_94_4 : xF 3 94 4 1 := ⟨RX4, TX4, 2, tyX4, rfl, by decide, xin_X4, tyX4_ok, nmX4, Or.inl ⟨xw_6, rfl, fun q h => by cases h <;> rfl⟩, xft_0⟩
theorem xf_3_94_9 : xF 3 94 9 1 := ⟨RX10, TX10, 2, tyX10, rfl, by decide, xin_X10, tyX10_ok, nmX10, Or.inl ⟨xw_6, rfl, fun q h => by cases h <;> rfl⟩, xft_0⟩
theorem xf_5_7_0 : xF 5 7 0 0 := ⟨RX0, TX0, 2, tyX0, rfl, by decide, xin_X0, tyX0_ok, nmX0, Or.inl ⟨xw_7, rfl, fun q h => by cases h <;> rfl⟩, xft_0⟩
theorem xf_5_7_1 : xF 5 7 1 0 := ⟨RX1, TX1, 2, tyX1, rfl, by decide, xin_X1, tyX1_ok, nmX1, Or.inl ⟨xw_7, rfl, fun q h => by cases h <;> rfl⟩, xft_0⟩
theorem xf_5_7_2 : xF 5 7 2 0 := ⟨RX2, TX2, 2, tyX2, rfl, by decide, xin_X2, tyX2_ok, nmX2, Or.inl ⟨xw_7, rfl, fun q h => by cases h <;> rfl⟩, xft_0⟩
theorem xf_5_7_4 : xF 5 7 4 0 := ⟨RX4, TX4, 2, tyX4, rfl, by decide, xin_X4, tyX4_ok, nmX4, Or.inl ⟨xw_7, rfl, fun q h => by cases h <;> rfl⟩, xft_0⟩
theorem xf_5_7_9 : xF 5 7 9 0 := ⟨RX10, TX10, 2, tyX10, rfl, by decide, xin_X10, tyX10_ok, nmX10, Or.inl ⟨xw_7, rfl, fun q h => by cases h <;> rfl⟩, xft_0⟩
theorem xf_5_13_0 : xF 5 13 0 1 := ⟨RX0, TX0, 2, tyX0, rfl, by decide, xin_X0, tyX0_ok, nmX0, Or.inl ⟨xw_8, rfl, fun q h => by cases h <;> rfl⟩, xft_0⟩
theorem xf_5_13_1 : xF 5 13 1 1 := ⟨RX1, TX1, 2, tyX1, rfl, by decide, xin_X1, tyX1_ok, nmX1, Or.inl ⟨xw_8, rfl, fun q h => by cases h <;> rfl⟩, xft_0⟩
theorem xf_5_13_2 : xF 5 13 2 1 := ⟨RX2, TX2, 2, tyX2, rfl, by decide, xin_X2, tyX2_ok, nmX2, Or.inl ⟨xw_8, rfl, fun q h => by cases h <;> rfl⟩, xft_0⟩
theorem xf_5_13_4 : xF 5 13 4 1 := ⟨RX4, TX4, 2, tyX4, rfl, by decide, xin_X4, tyX4_ok, nmX4, Or.inl ⟨xw_8, rfl, fun q h => by cases h <;> rfl⟩, xft_0⟩
theorem xf_5_13_9 : xF 5 13 9 1 := ⟨RX10, TX10, 2, tyX10, rfl, by decide, xin_X10, tyX10_ok, nmX10, Or.inl ⟨xw_8, rfl, fun q h => by cases h <;> rfl⟩, xft_0⟩
theorem xf_6_11_5 : xF 6 11 5 0 := ⟨RX6, TX6, 5, tyX6, rfl, by decide, xin_X6, tyX6_ok, nmX6, Or.inl ⟨xw_9, rfl, fun q h => by cases h <;> rfl⟩, xft_a⟩
theorem xf_6_17_5 : xF 6 17 5 2 := ⟨RX6, TX6, 5, tyX6, rfl, by decide, xin_X6, tyX6_ok, nmX6, Or.inl ⟨xw_10, rfl, fun q h => by cases h <;> rfl⟩, xft_a⟩
theorem xf_6_21_5 : xF 6 21 5 3 := ⟨RX6, TX6, 5, tyX6, rfl, by decide, xin_X6, tyX6_ok, nmX6, Or.inl ⟨xw_11, rfl, fun q h => by cases h <;> rfl⟩, xft_a⟩
theorem xf_6_24_5 : xF 6 24 5 1 := ⟨RX6, TX6, 5, tyX6, rfl, by decide, xin_X6, tyX6_ok, nmX6, Or.inl ⟨xw_12, rfl, fun q h => by cases h <;> rfl⟩, xft_0⟩
theorem xf_6_28_5 : xF 6 28 5 4 := ⟨RX6, TX6, 5, tyX6, rfl, by decide, xin_X6, tyX6_ok, nmX6, Or.inl ⟨xw_13, rfl, fun q h => by cases h <;> rfl⟩, xft_0⟩
theorem xf_7_9_6 : xF 7 9 6 0 := ⟨RX7, TX7, 8, tyX7, rfl, by decide, xin_X7, tyX7_ok, nmX7, Or.inl ⟨xw_14, rfl, fun q h => by cases h <;> rfl⟩, xft_a⟩
theorem xf_7_21_6 : xF 7 21 6 1 := ⟨RX7, TX7, 8, tyX7, rfl, by decide, xin_X7, tyX7_ok, nmX7, Or.inl ⟨xw_15, rfl, fun q h => by cases h <;> rfl⟩, xft_0⟩
theorem xf_7_28_6 : xF 7 28 6 6 := ⟨RX7, TX7, 8, tyX7, rfl, by decide, xin_X7, tyX7_ok, nmX7, Or.inl ⟨xw_16, rfl, fun q h => by cases h <;> rfl⟩, xft_o⟩
theorem xf_7_37_6 : xF 7 37 6 7 := ⟨RX7, TX7, 8, tyX7, rfl, by decide, xin_X7, tyX7_ok, nmX7, Or.inl ⟨xw_17, rfl, fun q h => by cases h <;> rfl⟩, xft_o⟩
theorem xf_7_50_6 : xF 7 50 6 2 := ⟨RX7, TX7, 8, tyX7, rfl, by decide, xin_X7, tyX7_ok, nmX7, Or.inl ⟨xw_18, rfl, fun q h => by cases h <;> rfl⟩, xft_0⟩
theorem xf_7_57_6 : xF 7 57 6 5 := ⟨RX7, TX7, 8, tyX7, rfl, by decide, xin_X7, tyX7_ok, nmX7, Or.inl ⟨xw_19, rfl, fun q h => by cases h <;> rfl⟩, xft_0⟩
theorem xf_7_87_3 : xF 7 87 3 2 := ⟨RX3, TX3, 6, tyX3, rfl, by decide, xin_X3, tyX3_ok, nmX3, Or.inr (Or.inr ⟨⟨3, rfl, by decide⟩, "DustReads", by decide +kernel⟩), xft_a⟩
theorem xf_7_91_3 : xF 7 91 3 4 := ⟨RX3, TX3, 6, tyX3, rfl, by decide, xin_X3, tyX3_ok, nmX3, Or.inr (Or.inr ⟨⟨3, rfl, by decide⟩, "DustReads", by decide +kernel⟩), xft_a⟩
theorem xf_7_94_3 : xF 7 94 3 3 := ⟨RX3, TX3, 6, tyX3, rfl, by decide, xin_X3, tyX3_ok, nmX3, Or.inr (Or.inr ⟨⟨3, rfl, by decide⟩, "DustReads", by decide +kernel⟩), xft_a⟩
theorem xf_7_135_6 : xF 7 135 6 3 := ⟨RX7, TX7, 8, tyX7, rfl, by decide, xin_X7, tyX7_ok, nmX7, Or.inl ⟨xw_20, rfl, fun q h => by cases h <;> rfl⟩, xft_0⟩
theorem xf_7_138_6 : xF 7 138 6 4 := ⟨RX7, TX7, 8, tyX7, rfl, by decide, xin_X7, tyX7_ok, nmX7, Or.inl ⟨xw_21, rfl, fun q h => by cases h <;> rfl⟩, xft_0⟩
theorem xf_8_11_7 : xF 8 11 7 0 := ⟨RX8, TX8, 3, tyX8, rfl, by decide, xin_X8, tyX8_ok, nmX8, Or.inl ⟨xw_22, rfl, fun q h => by cases h <;> rfl⟩, xft_a⟩
theorem xf_8_16_7 : xF 8 16 7 1 := ⟨RX8, TX8, 3, tyX8, rfl, by decide, xin_X8, tyX8_ok, nmX8, Or.inl ⟨xw_23, rfl, fun q h => by cases h <;> rfl⟩, xft_a⟩
theorem xf_8_20_7 : xF 8 20 7 2 := ⟨RX8, TX8, 3, tyX8, rfl, by decide, xin_X8, tyX8_ok, nmX8, Or.inl ⟨xw_24, rfl, fun q h => by cases h <;> rfl⟩, xft_a⟩
theorem xf_9_9_8 : xF 9 9 8 0 := ⟨RX9, TX9, 2, tyX9, rfl, by decide, xin_X9, tyX9_ok, nmX9, Or.inl ⟨xw_25, rfl, fun q h => by cases h <;> rfl⟩, xft_a⟩
theorem xf_9_15_8 : xF 9 15 8 1 := ⟨RX9, TX9, 2, tyX9, rfl, by decide, xin_X9, tyX9_ok, nmX9, Or.inl ⟨xw_26, rfl, fun q h => by cases h <;> rfl⟩, xft_0⟩
theorem xf_11_10_10 : xF 11 10 10 0 := ⟨RX11, TX11, 11, tyX11, rfl, by decide, xin_X11, tyX11_ok, nmX11, Or.inl ⟨xw_27, rfl, fun q h => by cases h <;> rfl⟩, xft_o⟩
theorem xf_11_16_10 : xF 11 16 10 2 := ⟨RX11, TX11, 11, tyX11, rfl, by decide, xin_X11, tyX11_ok, nmX11, Or.inl ⟨xw_28, rfl, fun q h => by cases h <;> rfl⟩, xft_a⟩
theorem xf_11_25_10 : xF 11 25 10 5 := ⟨RX11, TX11, 11, tyX11, rfl, by decide, xin_X11, tyX11_ok, nmX11, Or.inl ⟨xw_29, rfl, fun q h => by cases h <;> rfl⟩, xft_o⟩
theorem xf_11_29_10 : xF 11 29 10 6 := ⟨RX11, TX11, 11, tyX11, rfl, by decide, xin_X11, tyX11_ok, nmX11, Or.inl ⟨xw_30, rfl, fun q h => by cases h <;> rfl⟩, xft_a⟩
theorem xf_11_33_10 : xF 11 33 10 9 := ⟨RX11, TX11, 11, tyX11, rfl, by decide, xin_X11, tyX11_ok, nmX11, Or.inl ⟨xw_31, rfl, fun q h => by cases h <;> rfl⟩, xft_a⟩
theorem xf_11_39_10 : xF 11 39 10 10 := ⟨RX11, TX11, 11, tyX11, rfl, by decide, xin_X11, tyX11_ok, nmX11, Or.inl ⟨xw_32, rfl, fun q h => by cases h <;> rfl⟩, xft_o⟩
theorem xf_11_48_10 : xF 11 48 10 1 := ⟨RX11, TX11, 11, tyX11, rfl, by decide, xin_X11, tyX11_ok, nmX11, Or.inl ⟨xw_33, rfl, fun q h => by cases h <;> rfl⟩, xft_0⟩
theorem xf_11_79_10 : xF 11 79 10 3 := ⟨RX11, TX11, 11, tyX11, rfl, by decide, xin_X11, tyX11_ok, nmX11, Or.inl ⟨xw_34, rfl, fun q h => by cases h <;> rfl⟩, xft_0⟩
theorem xf_11_92_6 : xF 11 92 6 5 := ⟨RX7, TX7, 8, tyX7, rfl, by decide, xin_X7, tyX7_ok, nmX7, Or.inr (Or.inl ⟨rfl, rfl, "DustReads", by decide +kernel⟩), xft_0⟩
theorem xf_11_95_10 : xF 11 95 10 4 := ⟨RX11, TX11, 11, tyX11, rfl, by decide, xin_X11, tyX11_ok, nmX11, Or.inl ⟨xw_35, rfl, fun q h => by cases h <;> rfl⟩, xft_0⟩
theorem xf_11_99_6 : xF 11 99 6 3 := ⟨RX7, TX7, 8, tyX7, rfl, by decide, xin_X7, tyX7_ok, nmX7, Or.inr (Or.inl ⟨rfl, rfl, "DustReads", by decide +kernel⟩), xft_0⟩
theorem xf_11_102_6 : xF 11 102 6 7 := ⟨RX7, TX7, 8, tyX7, rfl, by decide, xin_X7, tyX7_ok, nmX7, Or.inr (Or.inr ⟨⟨7, rfl, by decide⟩, "DustReads", by decide +kernel⟩), xft_o⟩
theorem xf_11_116_3 : xF 11 116 3 1 := ⟨RX3, TX3, 6, tyX3, rfl, by decide, xin_X3, tyX3_ok, nmX3, Or.inr (Or.inl ⟨rfl, rfl, "DustReads", by decide +kernel⟩), xft_0⟩
theorem xf_11_131_3 : xF 11 131 3 5 := ⟨RX3, TX3, 6, tyX3, rfl, by decide, xin_X3, tyX3_ok, nmX3, Or.inr (Or.inr ⟨⟨3, rfl, by decide⟩, "DustReads", by decide +kernel⟩), xft_a⟩
theorem xf_11_142_3 : xF 11 142 3 3 := ⟨RX3, TX3, 6, tyX3, rfl, by decide, xin_X3, tyX3_ok, nmX3, Or.inr (Or.inr ⟨⟨3, rfl, by decide⟩, "DustReads", by decide +kernel⟩), xft_a⟩
theorem xf_11_152_10 : xF 11 152 10 8 := ⟨RX11, TX11, 11, tyX11, rfl, by decide, xin_X11, tyX11_ok, nmX11, Or.inl ⟨xw_36, rfl, fun q h => by cases h <;> rfl⟩, xft_0⟩
theorem xf_11_155_10 : xF 11 155 10 7 := ⟨RX11, TX11, 11, tyX11, rfl, by decide, xin_X11, tyX11_ok, nmX11, Or.inl ⟨xw_37, rfl, fun q h => by cases h <;> rfl⟩, xft_0⟩
theorem xf_11_166_0 : xF 11 166 0 1 := ⟨RX0, TX0, 2, tyX0, rfl, by decide, xin_X0, tyX0_ok, nmX0, Or.inl ⟨xw_38, rfl, fun q h => by cases h <;> rfl⟩, xft_0⟩
theorem xf_11_166_1 : xF 11 166 1 1 := ⟨RX1, TX1, 2, tyX1, rfl, by decide, xin_X1, tyX1_ok, nmX1, Or.inl ⟨xw_38, rfl, fun q h => by cases h <;> rfl⟩, xft_0⟩
theorem xf_11_166_2 : xF 11 166 2 1 := ⟨RX2, TX2, 2, tyX2, rfl, by decide, xin_X2, tyX2_ok, nmX2, Or.inl ⟨xw_38, rfl, fun q h => by cases h <;> rfl⟩, xft_0⟩
theorem xf_11_166_4 : xF 11 166 4 1 := ⟨RX4, TX4, 2, tyX4, rfl, by decide, xin_X4, tyX4_ok, nmX4, Or.inl ⟨xw_38, rfl, fun q h => by cases h <;> rfl⟩, xft_0⟩
theorem xf_11_166_9 : xF 11 166 9 1 := ⟨RX10, TX10, 2, tyX10, rfl, by decide, xin_X10, tyX10_ok, nmX10, Or.inl ⟨xw_38, rfl, fun q h => by cases h <;> rfl⟩, xft_0⟩
theorem xf_11_171_3 : xF 11 171 3 2 := ⟨RX3, TX3, 6, tyX3, rfl, by decide, xin_X3, tyX3_ok, nmX3, Or.inr (Or.inr ⟨⟨3, rfl, by decide⟩, "DustReads", by decide +kernel⟩), xft_a⟩
theorem xf_11_174_3 : xF 11 174 3 4 := ⟨RX3, TX3, 6, tyX3, rfl, by decide, xin_X3, tyX3_ok, nmX3, Or.inr (Or.inr ⟨⟨3, rfl, by decide⟩, "DustReads", by decide +kernel⟩), xft_a⟩
theorem xf_11_235_0 : xF 11 235 0 0 := ⟨RX0, TX0, 2, tyX0, rfl, by decide, xin_X0, tyX0_ok, nmX0, Or.inl ⟨xw_39, rfl, fun q h => by cases h <;> rfl⟩, xft_0⟩
theorem xf_11_235_1 : xF 11 235 1 0 := ⟨RX1, TX1, 2, tyX1, rfl, by decide, xin_X1, tyX1_ok, nmX1, Or.inl ⟨xw_39, rfl, fun q h => by cases h <;> rfl⟩, xft_0⟩
theorem xf_11_235_2 : xF 11 235 2 0 := ⟨RX2, TX2, 2, tyX2, rfl, by decide, xin_X2, tyX2_ok, nmX2, Or.inl ⟨xw_39, rfl, fun q h => by cases h <;> rfl⟩, xft_0⟩
theorem xf_11_235_4 : xF 11 235 4 0 := ⟨RX4, TX4, 2, tyX4, rfl, by decide, xin_X4, tyX4_ok, nmX4, Or.inl ⟨xw_39, rfl, fun q h => by cases h <;> rfl⟩, xft_0⟩
theorem xf_11_235_9 : xF 11 235 9 0 := ⟨RX10, TX10, 2, tyX10, rfl, by decide, xin_X10, tyX10_ok, nmX10, Or.inl ⟨xw_39, rfl, fun q h => by cases h <;> rfl⟩, xft_0⟩
theorem xf_12_7_11 : xF 12 7 11 0 := ⟨RX12, TX12, 25, tyX12, rfl, by decide, xin_X12, tyX12_ok, nmX12, Or.inl ⟨xw_40, rfl, fun q h => by cases h <;> rfl⟩, xft_a⟩
theorem xf_12_13_11 : xF 12 13 11 1 := ⟨RX12, TX12, 25, tyX12, rfl, by decide, xin_X12, tyX12_ok, nmX12, Or.inl ⟨xw_41, rfl, fun q h => by cases h <;> rfl⟩, xft_a⟩
theorem xf_12_16_11 : xF 12 16 11 2 := ⟨RX12, TX12, 25, tyX12, rfl, by decide, xin_X12, tyX12_ok, nmX12, Or.inl ⟨xw_42, rfl, fun q h => by cases h <;> rfl⟩, xft_a⟩
theorem xf_12_20_11 : xF 12 20 11 3 := ⟨RX12, TX12, 25, tyX12, rfl, by decide, xin_X12, tyX12_ok, nmX12, Or.inl ⟨xw_43, rfl, fun q h => by cases h <;> rfl⟩, xft_a⟩
theorem xf_12_23_11 : xF 12 23 11 5 := ⟨RX12, TX12, 25, tyX12, rfl, by decide, xin_X12, tyX12_ok, nmX12, Or.inl ⟨xw_44, rfl, fun q h => by cases h <;> rfl⟩, xft_a⟩
theorem xf_12_26_11 : xF 12 26 11 6 := ⟨RX12, TX12, 25, tyX12, rfl, by decide, xin_X12, tyX12_ok, nmX12, Or.inl ⟨xw_45, rfl, fun q h => by cases h <;> rfl⟩, xft_a⟩
theorem xf_12_29_11 : xF 12 29 11 7 := ⟨RX12, TX12, 25, tyX12, rfl, by decide, xin_X12, tyX12_ok, nmX12, Or.inl ⟨xw_46, rfl, fun q h => by cases h <;> rfl⟩, xft_a⟩
theorem xf_12_32_11 : xF 12 32 11 9 := ⟨RX12, TX12, 25, tyX12, rfl, by decide, xin_X12, tyX12_ok, nmX12, Or.inl ⟨xw_47, rfl, fun q h => by cases h <;> rfl⟩, xft_a⟩
theorem xf_12_35_11 : xF 12 35 11 18 := ⟨RX12, TX12, 25, tyX12, rfl, by decide, xin_X12, tyX12_ok, nmX12, Or.inl ⟨xw_48, rfl, fun q h => by cases h <;> rfl⟩, xft_a⟩
theorem xf_12_38_11 : xF 12 38 11 23 := ⟨RX12, TX12, 25, tyX12, rfl, by decide, xin_X12, tyX12_ok, nmX12, Or.inl ⟨xw_49, rfl, fun q h => by cases h <;> rfl⟩, xft_a⟩
theorem xf_12_42_11 : xF 12 42 11 8 := ⟨RX12, TX12, 25, tyX12, rfl, by decide, xin_X12, tyX12_ok, nmX12, Or.inl ⟨xw_50, rfl, fun q h => by cases h <;> rfl⟩, xft_0⟩
theorem xf_12_66_11 : xF 12 66 11 10 := ⟨RX12, TX12, 25, tyX12, rfl, by decide, xin_X12, tyX12_ok, nmX12, Or.inl ⟨xw_51, rfl, fun q h => by cases h <;> rfl⟩, xft_0⟩
theorem xf_12_72_11 : xF 12 72 11 11 := ⟨RX12, TX12, 25, tyX12, rfl, by decide, xin_X12, tyX12_ok, nmX12, Or.inl ⟨xw_52, rfl, fun q h => by cases h <;> rfl⟩, xft_0⟩
theorem xf_12_78_11 : xF 12 78 11 12 := ⟨RX12, TX12, 25, tyX12, rfl, by decide, xin_X12, tyX12_ok, nmX12, Or.inl ⟨xw_53, rfl, fun q h => by cases h <;> rfl⟩, xft_0⟩
theorem xf_12_81_11 : xF 12 81 11 13 := ⟨RX12, TX12, 25, tyX12, rfl, by decide, xin_X12, tyX12_ok, nmX12, Or.inl ⟨xw_54, rfl, fun q h => by cases h <;> rfl⟩, xft_0⟩
theorem xf_12_84_11 : xF 12 84 11 15 := ⟨RX12, TX12, 25, tyX12, rfl, by decide, xin_X12, tyX12_ok, nmX12, Or.inl ⟨xw_55, rfl, fun q h => by cases h <;> rfl⟩, xft_1⟩
theorem xf_12_88_11 : xF 12 88 11 14 := ⟨RX12, TX12, 25, tyX12, rfl, by decide, xin_X12, tyX12_ok, nmX12, Or.inl ⟨xw_56, rfl, fun q h => by cases h <;> rfl⟩, xft_0⟩
theorem xf_12_91_11 : xF 12 91 11 16 := ⟨RX12, TX12, 25, tyX12, rfl, by decide, xin_X12, tyX12_ok, nmX12, Or.inl ⟨xw_57, rfl, fun q h => by cases h <;> rfl⟩, xft_0⟩
theorem xf_12_139_11 : xF 12 139 11 17 := ⟨RX12, TX12, 25, tyX12, rfl, by decide, xin_X12, tyX12_ok, nmX12, Or.inl ⟨xw_58, rfl, fun q h => by cases h <;> rfl⟩, xft_0⟩
theorem xf_12_143_11 : xF 12 143 11 4 := ⟨RX12, TX12, 25, tyX12, rfl, by decide, xin_X12, tyX12_ok, nmX12, Or.inl ⟨xw_59, rfl, fun q h => by cases h <;> rfl⟩, xft_0⟩
theorem xf_12_177_11 : xF 12 177 11 19 := ⟨RX12, TX12, 25, tyX12, rfl, by decide, xin_X12, tyX12_ok, nmX12, Or.inl ⟨xw_60, rfl, fun q h => by cases h <;> rfl⟩, xft_0⟩
theorem xf_12_180_11 : xF 12 180 11 20 := ⟨RX12, TX12, 25, tyX12, rfl, by decide, xin_X12, tyX12_ok, nmX12, Or.inl ⟨xw_61, rfl, fun q h => by cases h <;> rfl⟩, xft_0⟩
theorem xf_12_187_11 : xF 12 187 11 21 := ⟨RX12, TX12, 25, tyX12, rfl, by decide, xin_X12, tyX12_ok, nmX12, Or.inl ⟨xw_62, rfl, fun q h => by cases h <;> rfl⟩, xft_0⟩
theorem xf_12_190_11 : xF 12 190 11 22 := ⟨RX12, TX12, 25, tyX12, rfl, by decide, xin_X12, tyX12_ok, nmX12, Or.inl ⟨xw_63, rfl, fun q h => by cases h <;> rfl⟩, xft_0⟩
theorem xf_12_209_11 : xF 12 209 11 24 := ⟨RX12, TX12, 25, tyX12, rfl, by decide, xin_X12, tyX12_ok, nmX12, Or.inl ⟨xw_64, rfl, fun q h => by cases h <;> rfl⟩, xft_0⟩
theorem xfld_3_ok : ∀ (k ci : Nat) (r : Nat), xfld_3 k ci = some r → xF 3 k ci r := by
  intro k ci r h
  unfold xfld_3 at h
  split at h
  · split at h
    · cases h; exact xf_3_9_3
    · cases h
  · split at h
    · cases h; exact xf_3_15_3
    · cases h
  · split at h
    · cases h; exact xf_3_18_3
    · cases h
  · split at h
    · cases h; exact xf_3_21_3
    · cases h
  · split at h
    · cases h; exact xf_3_24_3
    · cases h
  · split at h
    · cases h; exact xf_3_28_3
    · cases h
  · split at h
    · cases h; exact xf_3_38_5
    · cases h
  · split at h
    · cases h; exact xf_3_43_5
    · cases h
  · split at h
    · cases h; exact xf_3_54_5
    · cases h
  · split at h
    · cases h; exact xf_3_94_0
    · cases h; exact xf_3_94_1
    · cases h; exact xf_3_94_2
    · cases h; exact xf_3_94_4
    · cases h; exact xf_3_94_9
    · cases h
  · cases h
theorem xfld_5_ok : ∀ (k ci : Nat) (r : Nat), xfld_5 k ci = some r → xF 5 k ci r := by
  intro k ci r h
  unfold xfld_5 at h
  split at h
  · split at h
    · cases h; exact xf_5_7_0
    · cases h; exact xf_5_7_1
    · cases h; exact xf_5_7_2
    · cases h; exact xf_5_7_4
    · cases h; exact xf_5_7_9
    · cases h
  · split at h
    · cases h; exact xf_5_13_0
    · cases h; exact xf_5_13_1
    · cases h; exact xf_5_13_2
    · cases h; exact xf_5_13_4
    · cases h; exact xf_5_13_9
    · cases h
  · cases h
theorem xfld_6_ok : ∀ (k ci : Nat) (r : Nat), xfld_6 k ci = some r → xF 6 k ci r := by
  intro k ci r h
  unfold xfld_6 at h
  split at h
  · split at h
    · cases h; exact xf_6_11_5
    · cases h
  · split at h
    · cases h; exact xf_6_17_5
    · cases h
  · split at h
    · cases h; exact xf_6_21_5
    · cases h
  · split at h
    · cases h; exact xf_6_24_5
    · cases h
  · split at h
    · cases h; exact xf_6_28_5
    · cases h
  · cases h
theorem xfld_7_ok : ∀ (k ci : Nat) (r : Nat), xfld_7 k ci = some r → xF 7 k ci r := by
  intro k ci r h
  unfold xfld_7 at h
  split at h
  · split at h
    · cases h; exact xf_7_9_6
    · cases h
  · split at h
    · cases h; exact xf_7_21_6
    · cases h
  · split at h
    · cases h; exact xf_7_28_6
    · cases h
  · split at h
    · cases h; exact xf_7_37_6
    · cases h
  · split at h
    · cases h; exact xf_7_50_6
    · cases h
  · split at h
    · cases h; exact xf_7_57_6
    · cases h
  · split at h
    · cases h; exact xf_7_87_3
    · cases h
  · split at h
    · cases h; exact xf_7_91_3
    · cases h
  · split at h
    · cases h; exact xf_7_94_3
    · cases h
  · split at h
    · cases h; exact xf_7_135_6
    · cases h
  · split at h
    · cases h; exact xf_7_138_6
    · cases h
  · cases h
theorem xfld_8_ok : ∀ (k ci : Nat) (r : Nat), xfld_8 k ci = some r → xF 8 k ci r := by
  intro k ci r h
  unfold xfld_8 at h
  split at h
  · split at h
    · cases h; exact xf_8_11_7
    · cases h
  · split at h
    · cases h; exact xf_8_16_7
    · cases h
  · split at h
    · cases h; exact xf_8_20_7
    · cases h
  · cases h
theorem xfld_9_ok : ∀ (k ci : Nat) (r : Nat), xfld_9 k ci = some r → xF 9 k ci r := by
  intro k ci r h
  unfold xfld_9 at h
  split at h
  · split at h
    · cases h; exact xf_9_9_8
    · cases h
  · split at h
    · cases h; exact xf_9_15_8
    · cases h
  · cases h
theorem xfld_11_ok : ∀ (k ci : Nat) (r : Nat), xfld_11 k ci = some r → xF 11 k ci r := by
  intro k ci r h
  unfold xfld_11 at h
  split at h
  · split at h
    · cases h; exact xf_11_10_10
    · cases h
  · split at h
    · cases h; exact xf_11_16_10
    · cases h
  · split at h
    · cases h; exact xf_11_25_10
    · cases h
  · split at h
    · cases h; exact xf_11_29_10
    · cases h
  · split at h
    · cases h; exact xf_11_33_10
    · cases h
  · split at h
    · cases h; exact xf_11_39_10
    · cases h
  · split at h
    · cases h; exact xf_11_48_10
    · cases h
  · split at h
    · cases h; exact xf_11_79_10
    · cases h
  · split at h
    · cases h; exact xf_11_92_6
    · cases h
  · split at h
    · cases h; exact xf_11_95_10
    · cases h
  · split at h
    · cases h; exact xf_11_99_6
    · cases h
  · split at h
    · cases h; exact xf_11_102_6
    · cases h
  · split at h
    · cases h; exact xf_11_116_3
    · cases h
  · split at h
    · cases h; exact xf_11_131_3
    · cases h
  · split at h
    · cases h; exact xf_11_142_3
    · cases h
  · split at h
    · cases h; exact xf_11_152_10
    · cases h
  · split at h
    · cases h; exact xf_11_155_10
    · cases h
  · split at h
    · cases h; exact xf_11_166_0
    · cases h; exact xf_11_166_1
    · cases h; exact xf_11_166_2
    · cases h; exact xf_11_166_4
    · cases h; exact xf_11_166_9
    · cases h
  · split at h
    · cases h; exact xf_11_171_3
    · cases h
  · split at h
    · cases h; exact xf_11_174_3
    · cases h
  · split at h
    · cases h; exact xf_11_235_0
    · cases h; exact xf_11_235_1
    · cases h; exact xf_11_235_2
    · cases h; exact xf_11_235_4
    · cases h; exact xf_11_235_9
    · cases h
  · cases h
theorem xfld_12_ok : ∀ (k ci : Nat) (r : Nat), xfld_12 k ci = some r → xF 12 k ci r := by
  intro k ci r h
  unfold xfld_12 at h
  split at h
  · split at h
    · cases h; exact xf_12_7_11
    · cases h
  · split at h
    · cases h; exact xf_12_13_11
    · cases h
  · split at h
    · cases h; exact xf_12_16_11
    · cases h
  · split at h
    · cases h; exact xf_12_20_11
    · cases h
  · split at h
    · cases h; exact xf_12_23_11
    · cases h
  · split at h
    · cases h; exact xf_12_26_11
    · cases h
  · split at h
    · cases h; exact xf_12_29_11
    · cases h
  · split at h
    · cases h; exact xf_12_32_11
    · cases h
  · split at h
    · cases h; exact xf_12_35_11
    · cases h
  · split at h
    · cases h; exact xf_12_38_11
    · cases h
  · split at h
    · cases h; exact xf_12_42_11
    · cases h
  · split at h
    · cases h; exact xf_12_66_11
    · cases h
  · split at h
    · cases h; exact xf_12_72_11
    · cases h
  · split at h
    · cases h; exact xf_12_78_11
    · cases h
  · split at h
    · cases h; exact xf_12_81_11
    · cases h
  · split at h
    · cases h; exact xf_12_84_11
    · cases h
  · split at h
    · cases h; exact xf_12_88_11
    · cases h
  · split at h
    · cases h; exact xf_12_91_11
    · cases h
  · split at h
    · cases h; exact xf_12_139_11
    · cases h
  · split at h
    · cases h; exact xf_12_143_11
    · cases h
  · split at h
    · cases h; exact xf_12_177_11
    · cases h
  · split at h
    · cases h; exact xf_12_180_11
    · cases h
  · split at h
    · cases h; exact xf_12_187_11
    · cases h
  · split at h
    · cases h; exact xf_12_190_11
    · cases h
  · split at h
    · cases h; exact xf_12_209_11
    · cases h
  · cases h
theorem xfld_ok : ∀ (o k ci : Nat) (r : Nat), xfld o k ci = some r → xF o k ci r := by
  intro o k ci r h
  unfold xfld at h
  split at h
  · exact xfld_3_ok k ci r h
  · exact xfld_5_ok k ci r h
  · exact xfld_6_ok k ci r h
  · exact xfld_7_ok k ci r h
  · exact xfld_8_ok k ci r h
  · exact xfld_9_ok k ci r h
  · exact xfld_11_ok k ci r h
  · exact xfld_12_ok k ci r h
  · cases h
/-- the literals of Reading: constant pool number, text, reference -/
def xlits : List (Nat × String × Nat) := [(60, "spot", 1), (97, "reader", 2), (109, "open", 3), (111, "window", 4), (113, "hearth", 5), (115, "corner", 6), (117, "glass", 7)]
theorem xldc_3_ok : ∀ (k : Nat) (r : Value), xldc_3 k = some r → (∃ z, r = .int z ∧ Cond.constant (xown 3) k z ∈ xWg) ∨ (3 = 7 ∧ ∃ (q : Nat) (tx : String), r = .ref q ∧ (k, tx, q) ∈ xlits) := by
  intro k r h
  unfold xldc_3 at h
  split at h
  · cases h; exact Or.inl ⟨_, rfl, xw_71⟩
  · cases h
theorem xldc_7_ok : ∀ (k : Nat) (r : Value), xldc_7 k = some r → (∃ z, r = .int z ∧ Cond.constant (xown 7) k z ∈ xWg) ∨ (7 = 7 ∧ ∃ (q : Nat) (tx : String), r = .ref q ∧ (k, tx, q) ∈ xlits) := by
  intro k r h
  unfold xldc_7 at h
  split at h
  · cases h; exact Or.inr ⟨rfl, _, "spot", rfl, by decide +kernel⟩
  · cases h; exact Or.inr ⟨rfl, _, "reader", rfl, by decide +kernel⟩
  · cases h; exact Or.inr ⟨rfl, _, "open", rfl, by decide +kernel⟩
  · cases h; exact Or.inr ⟨rfl, _, "window", rfl, by decide +kernel⟩
  · cases h; exact Or.inr ⟨rfl, _, "hearth", rfl, by decide +kernel⟩
  · cases h; exact Or.inr ⟨rfl, _, "corner", rfl, by decide +kernel⟩
  · cases h; exact Or.inr ⟨rfl, _, "glass", rfl, by decide +kernel⟩
  · cases h
theorem xldc_9_ok : ∀ (k : Nat) (r : Value), xldc_9 k = some r → (∃ z, r = .int z ∧ Cond.constant (xown 9) k z ∈ xWg) ∨ (9 = 7 ∧ ∃ (q : Nat) (tx : String), r = .ref q ∧ (k, tx, q) ∈ xlits) := by
  intro k r h
  unfold xldc_9 at h
  split at h
  · cases h; exact Or.inl ⟨_, rfl, xw_72⟩
  · cases h
theorem xldc_11_ok : ∀ (k : Nat) (r : Value), xldc_11 k = some r → (∃ z, r = .int z ∧ Cond.constant (xown 11) k z ∈ xWg) ∨ (11 = 7 ∧ ∃ (q : Nat) (tx : String), r = .ref q ∧ (k, tx, q) ∈ xlits) := by
  intro k r h
  unfold xldc_11 at h
  split at h
  · cases h; exact Or.inl ⟨_, rfl, xw_65⟩
  · cases h; exact Or.inl ⟨_, rfl, xw_66⟩
  · cases h; exact Or.inl ⟨_, rfl, xw_67⟩
  · cases h; exact Or.inl ⟨_, rfl, xw_68⟩
  · cases h; exact Or.inl ⟨_, rfl, xw_69⟩
  · cases h; exact Or.inl ⟨_, rfl, xw_70⟩
  · cases h
theorem xldc_12_ok : ∀ (k : Nat) (r : Value), xldc_12 k = some r → (∃ z, r = .int z ∧ Cond.constant (xown 12) k z ∈ xWg) ∨ (12 = 7 ∧ ∃ (q : Nat) (tx : String), r = .ref q ∧ (k, tx, q) ∈ xlits) := by
  intro k r h
  unfold xldc_12 at h
  split at h
  · cases h; exact Or.inl ⟨_, rfl, xw_73⟩
  · cases h; exact Or.inl ⟨_, rfl, xw_74⟩
  · cases h; exact Or.inl ⟨_, rfl, xw_75⟩
  · cases h; exact Or.inl ⟨_, rfl, xw_76⟩
  · cases h; exact Or.inl ⟨_, rfl, xw_77⟩
  · cases h; exact Or.inl ⟨_, rfl, xw_78⟩
  · cases h
theorem xldc_ok : ∀ (o k : Nat) (r : Value), xldc o k = some r → (∃ z, r = .int z ∧ Cond.constant (xown o) k z ∈ xWg) ∨ (o = 7 ∧ ∃ (q : Nat) (tx : String), r = .ref q ∧ (k, tx, q) ∈ xlits) := by
  intro o k r h
  unfold xldc at h
  split at h
  · exact xldc_3_ok k r h
  · exact xldc_7_ok k r h
  · exact xldc_9_ok k r h
  · exact xldc_11_ok k r h
  · exact xldc_12_ok k r h
  · cases h
theorem xldcw_14_ok : ∀ (k : Nat) (r : Value), xldcw_14 k = some r → ∃ z, r = .int z ∧ Cond.constant (xown 14) k z ∈ xWg := by
  intro k r h
  unfold xldcw_14 at h
  split at h
  · cases h; exact ⟨_, rfl, xw_79⟩
  · cases h; exact ⟨_, rfl, xw_80⟩
  · cases h; exact ⟨_, rfl, xw_81⟩
  · cases h
theorem xldcw_ok : ∀ (o k : Nat) (r : Value), xldcw o k = some r → ∃ z, r = .int z ∧ Cond.constant (xown o) k z ∈ xWg := by
  intro o k r h
  unfold xldcw at h
  split at h
  · exact xldcw_14_ok k r h
  · cases h
theorem xldc2_12_ok : ∀ (k : Nat) (r : Value), xldc2_12 k = some r → ∃ z, r = .long z ∧ Cond.constantLong (xown 12) k z ∈ xWg := by
  intro k r h
  unfold xldc2_12 at h
  split at h
  · cases h; exact ⟨_, rfl, xw_83⟩
  · cases h; exact ⟨_, rfl, xw_84⟩
  · cases h; exact ⟨_, rfl, xw_85⟩
  · cases h; exact ⟨_, rfl, xw_86⟩
  · cases h; exact ⟨_, rfl, xw_87⟩
  · cases h; exact ⟨_, rfl, xw_88⟩
  · cases h; exact ⟨_, rfl, xw_89⟩
  · cases h; exact ⟨_, rfl, xw_90⟩
  · cases h
theorem xldc2_13_ok : ∀ (k : Nat) (r : Value), xldc2_13 k = some r → ∃ z, r = .long z ∧ Cond.constantLong (xown 13) k z ∈ xWg := by
  intro k r h
  unfold xldc2_13 at h
  split at h
  · cases h; exact ⟨_, rfl, xw_82⟩
  · cases h
theorem xldc2_ok : ∀ (o k : Nat) (r : Value), xldc2 o k = some r → ∃ z, r = .long z ∧ Cond.constantLong (xown o) k z ∈ xWg := by
  intro o k r h
  unfold xldc2 at h
  split at h
  · exact xldc2_12_ok k r h
  · exact xldc2_13_ok k r h
  · cases h
def xnr : List Value → Bool
  | [] => true
  | .ref _ :: _ => false
  | _ :: t => xnr t
theorem xnr_ok : ∀ {fs : List Value}, xnr fs = true → ∀ v ∈ fs, ∀ z, v ≠ .ref z
  | [], _, _, h, _ => by cases h
  | a :: t, h, v, hv, z => by
    rcases List.mem_cons.mp hv with rfl | hv
    · intro e
      subst e
      cases h
    · refine xnr_ok (fs := t) ?_ v hv z
      cases a <;> first | exact h | cases h
def xNewR (o k : Nat) (r : Nat × List Value) : Prop := xNew o k r.1 r.2
theorem xnewT_7_ok : ∀ (k : Nat) (r : Nat × List Value), xnewT_7 k = some r → xNewR 7 k r := by
  intro k r h
  unfold xnewT_7 at h
  split at h
  · cases h; exact ⟨RX6, TX6, 5, tyX6, rfl, rfl, xin_X6, tyX6_ok, fun q hq => by rcases (show q = 0 ∨ q = 1 ∨ q = 2 ∨ q = 3 ∨ q = 4 by omega) with rfl | rfl | rfl | rfl | rfl <;> rfl, xnr_ok rfl, xw_103, xw_104, xw_105⟩
  · cases h; exact ⟨RX3, TX3, 6, tyX3, rfl, rfl, xin_X3, tyX3_ok, fun q hq => by rcases (show q = 0 ∨ q = 1 ∨ q = 2 ∨ q = 3 ∨ q = 4 ∨ q = 5 by omega) with rfl | rfl | rfl | rfl | rfl | rfl <;> rfl, xnr_ok rfl, xw_106, xw_95, xw_96⟩
  · cases h; exact ⟨RX4, TX4, 2, tyX4, rfl, rfl, xin_X4, tyX4_ok, fun q hq => by rcases (show q = 0 ∨ q = 1 by omega) with rfl | rfl <;> rfl, xnr_ok rfl, xw_107, xw_108, xw_109⟩
  · cases h; exact ⟨RX10, TX10, 2, tyX10, rfl, rfl, xin_X10, tyX10_ok, fun q hq => by rcases (show q = 0 ∨ q = 1 by omega) with rfl | rfl <;> rfl, xnr_ok rfl, xw_110, xw_111, xw_112⟩
  · cases h; exact ⟨RX2, TX2, 2, tyX2, rfl, rfl, xin_X2, tyX2_ok, fun q hq => by rcases (show q = 0 ∨ q = 1 by omega) with rfl | rfl <;> rfl, xnr_ok rfl, xw_113, xw_114, xw_115⟩
  · cases h; exact ⟨RX0, TX0, 2, tyX0, rfl, rfl, xin_X0, tyX0_ok, fun q hq => by rcases (show q = 0 ∨ q = 1 by omega) with rfl | rfl <;> rfl, xnr_ok rfl, xw_116, xw_117, xw_118⟩
  · cases h; exact ⟨RX1, TX1, 2, tyX1, rfl, rfl, xin_X1, tyX1_ok, fun q hq => by rcases (show q = 0 ∨ q = 1 by omega) with rfl | rfl <;> rfl, xnr_ok rfl, xw_119, xw_120, xw_121⟩
  · cases h
theorem xnewT_11_ok : ∀ (k : Nat) (r : Nat × List Value), xnewT_11 k = some r → xNewR 11 k r := by
  intro k r h
  unfold xnewT_11 at h
  split at h
  · cases h; exact ⟨RX8, TX8, 3, tyX8, rfl, rfl, xin_X8, tyX8_ok, fun q hq => by rcases (show q = 0 ∨ q = 1 ∨ q = 2 by omega) with rfl | rfl | rfl <;> rfl, xnr_ok rfl, xw_91, xw_92, xw_93⟩
  · cases h; exact ⟨RX3, TX3, 6, tyX3, rfl, rfl, xin_X3, tyX3_ok, fun q hq => by rcases (show q = 0 ∨ q = 1 ∨ q = 2 ∨ q = 3 ∨ q = 4 ∨ q = 5 by omega) with rfl | rfl | rfl | rfl | rfl | rfl <;> rfl, xnr_ok rfl, xw_94, xw_95, xw_96⟩
  · cases h; exact ⟨RX9, TX9, 2, tyX9, rfl, rfl, xin_X9, tyX9_ok, fun q hq => by rcases (show q = 0 ∨ q = 1 by omega) with rfl | rfl <;> rfl, xnr_ok rfl, xw_97, xw_98, xw_99⟩
  · cases h; exact ⟨RX7, TX7, 8, tyX7, rfl, rfl, xin_X7, tyX7_ok, fun q hq => by rcases (show q = 0 ∨ q = 1 ∨ q = 2 ∨ q = 3 ∨ q = 4 ∨ q = 5 ∨ q = 6 ∨ q = 7 by omega) with rfl | rfl | rfl | rfl | rfl | rfl | rfl | rfl <;> rfl, xnr_ok rfl, xw_100, xw_101, xw_102⟩
  · cases h
theorem xnewT_13_ok : ∀ (k : Nat) (r : Nat × List Value), xnewT_13 k = some r → xNewR 13 k r := by
  intro k r h
  unfold xnewT_13 at h
  split at h
  · cases h; exact ⟨RX11, TX11, 11, tyX11, rfl, rfl, xin_X11, tyX11_ok, fun q hq => by rcases (show q = 0 ∨ q = 1 ∨ q = 2 ∨ q = 3 ∨ q = 4 ∨ q = 5 ∨ q = 6 ∨ q = 7 ∨ q = 8 ∨ q = 9 ∨ q = 10 by omega) with rfl | rfl | rfl | rfl | rfl | rfl | rfl | rfl | rfl | rfl | rfl <;> rfl, xnr_ok rfl, xw_122, xw_123, xw_124⟩
  · cases h; exact ⟨RX12, TX12, 25, tyX12, rfl, rfl, xin_X12, tyX12_ok, fun q hq => by rcases (show q = 0 ∨ q = 1 ∨ q = 2 ∨ q = 3 ∨ q = 4 ∨ q = 5 ∨ q = 6 ∨ q = 7 ∨ q = 8 ∨ q = 9 ∨ q = 10 ∨ q = 11 ∨ q = 12 ∨ q = 13 ∨ q = 14 ∨ q = 15 ∨ q = 16 ∨ q = 17 ∨ q = 18 ∨ q = 19 ∨ q = 20 ∨ q = 21 ∨ q = 22 ∨ q = 23 ∨ q = 24 by omega) with rfl | rfl | rfl | rfl | rfl | rfl | rfl | rfl | rfl | rfl | rfl | rfl | rfl | rfl | rfl | rfl | rfl | rfl | rfl | rfl | rfl | rfl | rfl | rfl | rfl <;> rfl, xnr_ok rfl, xw_125, xw_126, xw_127⟩
  · cases h
theorem xnewT_ok : ∀ (o k : Nat) (r : Nat × List Value), xnewT o k = some r → xNewR o k r := by
  intro o k r h
  unfold xnewT at h
  split at h
  · exact xnewT_7_ok k r h
  · exact xnewT_11_ok k r h
  · exact xnewT_13_ok k r h
  · cases h
def xAnR (o k t : Nat) : Prop := ∃ C : String, (∀ tA : Nat → ClassId, (xtys tA)[t]? = some (tA t, .object C)) ∧ Cond.classLink (xown o) k C ∈ xWg ∧ (C = "DustReads$Place" ∨ C = "DustReads$Library")
theorem xanew_6_ok : ∀ (k : Nat) (r : Nat), xanew_6 k = some r → xAnR 6 k r := by
  intro k r h
  unfold xanew_6 at h
  split at h
  · cases h; exact ⟨"DustReads$Place", fun _ => rfl, xw_129, by first | exact Or.inl rfl | exact Or.inr rfl⟩
  · cases h
theorem xanew_11_ok : ∀ (k : Nat) (r : Nat), xanew_11 k = some r → xAnR 11 k r := by
  intro k r h
  unfold xanew_11 at h
  split at h
  · cases h; exact ⟨"DustReads$Library", fun _ => rfl, xw_128, by first | exact Or.inl rfl | exact Or.inr rfl⟩
  · cases h
theorem xanew_ok : ∀ (o k : Nat) (r : Nat), xanew o k = some r → xAnR o k r := by
  intro o k r h
  unfold xanew at h
  split at h
  · exact xanew_6_ok k r h
  · exact xanew_11_ok k r h
  · cases h
theorem xins_11_ok : ∀ (k ci : Nat) (r : Int32), xins_11 k ci = some r → xIns 11 k ci r := by
  intro k ci r h
  unfold xins_11 at h
  split at h
  · split at h
    · cases h; exact ⟨"DustReads$Open", TX0, 2, rfl, xw_130, Or.inr (Or.inr ⟨rfl, by decide +kernel⟩)⟩
    · cases h; exact ⟨"DustReads$Open", TX1, 2, rfl, xw_130, Or.inr (Or.inr ⟨rfl, by decide +kernel⟩)⟩
    · cases h; exact ⟨"DustReads$Open", TX2, 2, rfl, xw_130, Or.inr (Or.inl ⟨rfl, by decide +kernel⟩)⟩
    · cases h; exact ⟨"DustReads$Open", TX4, 2, rfl, xw_130, Or.inl ⟨rfl, rfl⟩⟩
    · cases h; exact ⟨"DustReads$Open", TX10, 2, rfl, xw_130, Or.inr (Or.inl ⟨rfl, by decide +kernel⟩)⟩
    · cases h
  · split at h
    · cases h; exact ⟨"DustReads$Window", TX0, 2, rfl, xw_131, Or.inr (Or.inr ⟨rfl, by decide +kernel⟩)⟩
    · cases h; exact ⟨"DustReads$Window", TX1, 2, rfl, xw_131, Or.inr (Or.inr ⟨rfl, by decide +kernel⟩)⟩
    · cases h; exact ⟨"DustReads$Window", TX2, 2, rfl, xw_131, Or.inr (Or.inr ⟨rfl, by decide +kernel⟩)⟩
    · cases h; exact ⟨"DustReads$Window", TX4, 2, rfl, xw_131, Or.inr (Or.inr ⟨rfl, by decide +kernel⟩)⟩
    · cases h; exact ⟨"DustReads$Window", TX10, 2, rfl, xw_131, Or.inl ⟨rfl, rfl⟩⟩
    · cases h
  · split at h
    · cases h; exact ⟨"DustReads$Hearth", TX0, 2, rfl, xw_132, Or.inr (Or.inr ⟨rfl, by decide +kernel⟩)⟩
    · cases h; exact ⟨"DustReads$Hearth", TX1, 2, rfl, xw_132, Or.inr (Or.inr ⟨rfl, by decide +kernel⟩)⟩
    · cases h; exact ⟨"DustReads$Hearth", TX2, 2, rfl, xw_132, Or.inl ⟨rfl, rfl⟩⟩
    · cases h; exact ⟨"DustReads$Hearth", TX4, 2, rfl, xw_132, Or.inr (Or.inr ⟨rfl, by decide +kernel⟩)⟩
    · cases h; exact ⟨"DustReads$Hearth", TX10, 2, rfl, xw_132, Or.inr (Or.inr ⟨rfl, by decide +kernel⟩)⟩
    · cases h
  · split at h
    · cases h; exact ⟨"DustReads$Corner", TX0, 2, rfl, xw_133, Or.inl ⟨rfl, rfl⟩⟩
    · cases h; exact ⟨"DustReads$Corner", TX1, 2, rfl, xw_133, Or.inr (Or.inl ⟨rfl, by decide +kernel⟩)⟩
    · cases h; exact ⟨"DustReads$Corner", TX2, 2, rfl, xw_133, Or.inr (Or.inr ⟨rfl, by decide +kernel⟩)⟩
    · cases h; exact ⟨"DustReads$Corner", TX4, 2, rfl, xw_133, Or.inr (Or.inr ⟨rfl, by decide +kernel⟩)⟩
    · cases h; exact ⟨"DustReads$Corner", TX10, 2, rfl, xw_133, Or.inr (Or.inr ⟨rfl, by decide +kernel⟩)⟩
    · cases h
  · split at h
    · cases h; exact ⟨"DustReads$Glass", TX0, 2, rfl, xw_134, Or.inr (Or.inr ⟨rfl, by decide +kernel⟩)⟩
    · cases h; exact ⟨"DustReads$Glass", TX1, 2, rfl, xw_134, Or.inl ⟨rfl, rfl⟩⟩
    · cases h; exact ⟨"DustReads$Glass", TX2, 2, rfl, xw_134, Or.inr (Or.inr ⟨rfl, by decide +kernel⟩)⟩
    · cases h; exact ⟨"DustReads$Glass", TX4, 2, rfl, xw_134, Or.inr (Or.inr ⟨rfl, by decide +kernel⟩)⟩
    · cases h; exact ⟨"DustReads$Glass", TX10, 2, rfl, xw_134, Or.inr (Or.inr ⟨rfl, by decide +kernel⟩)⟩
    · cases h
  · cases h
theorem xins_ok : ∀ (o k ci : Nat) (r : Int32), xins o k ci = some r → xIns o k ci r := by
  intro o k ci r h
  unfold xins at h
  split at h
  · exact xins_11_ok k ci r h
  · cases h
def xElR (t ci : Nat) : Prop := ∃ E : String, (∀ tA : Nat → ClassId, (xtys tA)[t]? = some (tA t, .object E)) ∧ (xcn ci = E ∨ (xcn ci, E) ∈ xNwC) ∧ ∃ T N, vwCl[ci]? = some (xcn ci, T, N)
theorem xelm_ok : ∀ (t ci : Nat), xelm t ci = true → xElR t ci := by
  intro t ci h
  unfold xelm at h
  split at h
  · unfold xelm_4 at h
    split at h
    · exact ⟨"DustReads$Place", fun _ => rfl, Or.inr (by decide +kernel), TX0, 2, rfl⟩
    · exact ⟨"DustReads$Place", fun _ => rfl, Or.inr (by decide +kernel), TX1, 2, rfl⟩
    · exact ⟨"DustReads$Place", fun _ => rfl, Or.inr (by decide +kernel), TX2, 2, rfl⟩
    · exact ⟨"DustReads$Place", fun _ => rfl, Or.inr (by decide +kernel), TX4, 2, rfl⟩
    · exact ⟨"DustReads$Place", fun _ => rfl, Or.inr (by decide +kernel), TX10, 2, rfl⟩
    · cases h
  · unfold xelm_5 at h
    split at h
    · exact ⟨"DustReads$Library", fun _ => rfl, Or.inl rfl, TX3, 6, rfl⟩
    · cases h
  · cases h
def xMok (m : xMd) : Prop := plainName m.2.1.cls = true ∧ m.2.1.cls = xown m.1
def xCvR (op : Nat → ClassFile.Instr) (o k ci : Nat) (m : xMd) : Prop := (∃ n, xnp o k = some n ∧ xRuleO op (xown o) k (xcn ci) n m.2.1 m.2.2.1 m.2.2.2.1 m.2.2.2.2.1) ∧ (∃ T N, vwCl[ci]? = some (xcn ci, T, N)) ∧ xMok m
theorem xcv_0_7_8_r : xCvR .invokevirtual 0 7 8 m_X9_leave := ⟨⟨1, rfl, xr_V xw_136 xw_137 xw_138 xw_99 xw_135 ⟨rfl, by decide, by decide, by decide +kernel⟩⟩, ⟨TX9, 2, rfl⟩, by decide +kernel, rfl⟩
theorem xcv_0_20_0_r : xCvR .invokevirtual 0 20 0 m_X0_askSize := ⟨⟨2, rfl, xr_V xw_140 xw_141 xw_142 xw_118 xw_139 ⟨rfl, by decide, by decide, by decide +kernel⟩⟩, ⟨TX0, 2, rfl⟩, by decide +kernel, rfl⟩
theorem xcv_0_20_1_r : xCvR .invokevirtual 0 20 1 m_X1_askSize := ⟨⟨2, rfl, xr_O (x := yX0_askSize) (owner := "DustReads$Corner") xw_140 xw_146 xw_145 xw_144 xw_121 xw_143 xw_141 xw_139 ⟨by decide, by decide, by decide +kernel⟩⟩, ⟨TX1, 2, rfl⟩, by decide +kernel, rfl⟩
theorem xcv_1_7_8_r : xCvR .invokevirtual 1 7 8 m_X9_leave := ⟨⟨1, rfl, xr_V xw_147 xw_137 xw_138 xw_99 xw_135 ⟨rfl, by decide, by decide, by decide +kernel⟩⟩, ⟨TX9, 2, rfl⟩, by decide +kernel, rfl⟩
theorem xcv_2_9_8_r : xCvR .invokevirtual 2 9 8 m_X9_leave := ⟨⟨1, rfl, xr_V xw_148 xw_137 xw_138 xw_99 xw_135 ⟨rfl, by decide, by decide, by decide +kernel⟩⟩, ⟨TX9, 2, rfl⟩, by decide +kernel, rfl⟩
theorem xcv_3_46_3_r : xCvR .invokevirtual 3 46 3 m_X3_spots := ⟨⟨0, rfl, xr_V xw_150 xw_151 xw_152 xw_96 xw_149 ⟨rfl, by decide, by decide, by decide +kernel⟩⟩, ⟨TX3, 6, rfl⟩, by decide +kernel, rfl⟩
theorem xcv_3_49_3_r : xCvR .invokevirtual 3 49 3 m_X3_readers := ⟨⟨0, rfl, xr_V xw_154 xw_155 xw_156 xw_96 xw_153 ⟨rfl, by decide, by decide, by decide +kernel⟩⟩, ⟨TX3, 6, rfl⟩, by decide +kernel, rfl⟩
theorem xcv_3_51_3_r : xCvR .invokevirtual 3 51 3 m_X3_allSpots := ⟨⟨0, rfl, xr_V xw_158 xw_159 xw_160 xw_96 xw_157 ⟨rfl, by decide, by decide, by decide +kernel⟩⟩, ⟨TX3, 6, rfl⟩, by decide +kernel, rfl⟩
theorem xcv_3_58_3_r : xCvR .invokevirtual 3 58 3 m_X3_isOut := ⟨⟨1, rfl, xr_V xw_162 xw_163 xw_164 xw_96 xw_161 ⟨rfl, by decide, by decide, by decide +kernel⟩⟩, ⟨TX3, 6, rfl⟩, by decide +kernel, rfl⟩
theorem xcv_3_62_3_r : xCvR .invokevirtual 3 62 3 m_X3_dustNext := ⟨⟨3, rfl, xr_V xw_166 xw_167 xw_168 xw_96 xw_165 ⟨rfl, by decide, by decide, by decide +kernel⟩⟩, ⟨TX3, 6, rfl⟩, by decide +kernel, rfl⟩
theorem xcv_3_66_3_r : xCvR .invokevirtual 3 66 3 m_X3_fadedNext := ⟨⟨3, rfl, xr_V xw_170 xw_171 xw_172 xw_96 xw_169 ⟨rfl, by decide, by decide, by decide +kernel⟩⟩, ⟨TX3, 6, rfl⟩, by decide +kernel, rfl⟩
theorem xcv_3_75_3_r : xCvR .invokevirtual 3 75 3 m_X3_wipe := ⟨⟨1, rfl, xr_V xw_174 xw_175 xw_176 xw_96 xw_173 ⟨rfl, by decide, by decide, by decide +kernel⟩⟩, ⟨TX3, 6, rfl⟩, by decide +kernel, rfl⟩
theorem xcv_3_79_3_r : xCvR .invokevirtual 3 79 3 m_X3_fallAt := ⟨⟨2, rfl, xr_V xw_178 xw_179 xw_180 xw_96 xw_177 ⟨rfl, by decide, by decide, by decide +kernel⟩⟩, ⟨TX3, 6, rfl⟩, by decide +kernel, rfl⟩
theorem xcv_3_85_3_r : xCvR .invokevirtual 3 85 3 m_X3_placeAt := ⟨⟨1, rfl, xr_V xw_182 xw_183 xw_184 xw_96 xw_181 ⟨rfl, by decide, by decide, by decide +kernel⟩⟩, ⟨TX3, 6, rfl⟩, by decide +kernel, rfl⟩
theorem xcv_3_89_0_r : xCvR .invokevirtual 3 89 0 m_X5_sunIn := ⟨⟨1, rfl, xr_U (x := yX5_sunIn) (owner := "DustReads$Place") xw_186 xw_190 xw_188 xw_187 xw_189 xw_185 rfl ⟨by decide, by decide, by decide +kernel⟩⟩, ⟨TX0, 2, rfl⟩, by decide +kernel, rfl⟩
theorem xcv_3_89_1_r : xCvR .invokevirtual 3 89 1 m_X5_sunIn := ⟨⟨1, rfl, xr_U (x := yX5_sunIn) (owner := "DustReads$Place") xw_186 xw_190 xw_191 xw_187 xw_189 xw_185 rfl ⟨by decide, by decide, by decide +kernel⟩⟩, ⟨TX1, 2, rfl⟩, by decide +kernel, rfl⟩
theorem xcv_3_89_2_r : xCvR .invokevirtual 3 89 2 m_X5_sunIn := ⟨⟨1, rfl, xr_U (x := yX5_sunIn) (owner := "DustReads$Place") xw_186 xw_190 xw_192 xw_187 xw_189 xw_185 rfl ⟨by decide, by decide, by decide +kernel⟩⟩, ⟨TX2, 2, rfl⟩, by decide +kernel, rfl⟩
theorem xcv_3_89_4_r : xCvR .invokevirtual 3 89 4 m_X5_sunIn := ⟨⟨1, rfl, xr_U (x := yX5_sunIn) (owner := "DustReads$Place") xw_186 xw_190 xw_193 xw_187 xw_189 xw_185 rfl ⟨by decide, by decide, by decide +kernel⟩⟩, ⟨TX4, 2, rfl⟩, by decide +kernel, rfl⟩
theorem xcv_3_89_9_r : xCvR .invokevirtual 3 89 9 m_X10_sunIn := ⟨⟨1, rfl, xr_O (x := yX5_sunIn) (owner := "DustReads$Place") xw_186 xw_190 xw_196 xw_195 xw_112 xw_194 xw_187 xw_185 ⟨by decide, by decide, by decide +kernel⟩⟩, ⟨TX10, 2, rfl⟩, by decide +kernel, rfl⟩
theorem xcv_3_97_0_r : xCvR .invokevirtual 3 97 0 m_X0_fallBy := ⟨⟨2, rfl, xr_O (x := yX5_fallBy) (owner := "DustReads$Place") xw_198 xw_201 xw_200 xw_199 xw_118 xw_197 xw_202 xw_203 ⟨by decide, by decide, by decide +kernel⟩⟩, ⟨TX0, 2, rfl⟩, by decide +kernel, rfl⟩
theorem xcv_3_97_1_r : xCvR .invokevirtual 3 97 1 m_X1_fallBy := ⟨⟨2, rfl, xr_O (x := yX5_fallBy) (owner := "DustReads$Place") xw_198 xw_201 xw_206 xw_205 xw_121 xw_204 xw_202 xw_203 ⟨by decide, by decide, by decide +kernel⟩⟩, ⟨TX1, 2, rfl⟩, by decide +kernel, rfl⟩
theorem xcv_3_97_2_r : xCvR .invokevirtual 3 97 2 m_X2_fallBy := ⟨⟨2, rfl, xr_O (x := yX5_fallBy) (owner := "DustReads$Place") xw_198 xw_201 xw_209 xw_208 xw_115 xw_207 xw_202 xw_203 ⟨by decide, by decide, by decide +kernel⟩⟩, ⟨TX2, 2, rfl⟩, by decide +kernel, rfl⟩
theorem xcv_3_97_4_r : xCvR .invokevirtual 3 97 4 m_X5_fallBy := ⟨⟨2, rfl, xr_U (x := yX5_fallBy) (owner := "DustReads$Place") xw_198 xw_201 xw_210 xw_202 xw_189 xw_203 rfl ⟨by decide, by decide, by decide +kernel⟩⟩, ⟨TX4, 2, rfl⟩, by decide +kernel, rfl⟩
theorem xcv_3_97_9_r : xCvR .invokevirtual 3 97 9 m_X5_fallBy := ⟨⟨2, rfl, xr_U (x := yX5_fallBy) (owner := "DustReads$Place") xw_198 xw_201 xw_211 xw_202 xw_189 xw_203 rfl ⟨by decide, by decide, by decide +kernel⟩⟩, ⟨TX10, 2, rfl⟩, by decide +kernel, rfl⟩
theorem xcv_3_101_3_r : xCvR .invokevirtual 3 101 3 m_X3_lastTouch := ⟨⟨2, rfl, xr_V xw_213 xw_214 xw_215 xw_96 xw_212 ⟨rfl, by decide, by decide, by decide +kernel⟩⟩, ⟨TX3, 6, rfl⟩, by decide +kernel, rfl⟩
theorem xcv_3_104_3_r : xCvR .invokevirtual 3 104 3 m_X3_firstTouch := ⟨⟨2, rfl, xr_V xw_217 xw_218 xw_219 xw_96 xw_216 ⟨rfl, by decide, by decide, by decide +kernel⟩⟩, ⟨TX3, 6, rfl⟩, by decide +kernel, rfl⟩
theorem xcv_3_107_3_r : xCvR .invokevirtual 3 107 3 m_X3_allReaders := ⟨⟨0, rfl, xr_V xw_221 xw_222 xw_223 xw_96 xw_220 ⟨rfl, by decide, by decide, by decide +kernel⟩⟩, ⟨TX3, 6, rfl⟩, by decide +kernel, rfl⟩
theorem xcv_3_110_5_r : xCvR .invokevirtual 3 110 5 m_X6_comers := ⟨⟨1, rfl, xr_V xw_225 xw_226 xw_227 xw_105 xw_224 ⟨rfl, by decide, by decide, by decide +kernel⟩⟩, ⟨TX6, 5, rfl⟩, by decide +kernel, rfl⟩
theorem xcv_4_7_8_r : xCvR .invokevirtual 4 7 8 m_X9_leave := ⟨⟨1, rfl, xr_V xw_228 xw_137 xw_138 xw_99 xw_135 ⟨rfl, by decide, by decide, by decide +kernel⟩⟩, ⟨TX9, 2, rfl⟩, by decide +kernel, rfl⟩
theorem xcv_4_17_4_r : xCvR .invokevirtual 4 17 4 m_X4_askMark := ⟨⟨2, rfl, xr_V xw_230 xw_231 xw_232 xw_109 xw_229 ⟨rfl, by decide, by decide, by decide +kernel⟩⟩, ⟨TX4, 2, rfl⟩, by decide +kernel, rfl⟩
theorem xcv_4_17_2_r : xCvR .invokevirtual 4 17 2 m_X2_askMark := ⟨⟨2, rfl, xr_O (x := yX4_askMark) (owner := "DustReads$Open") xw_230 xw_236 xw_235 xw_234 xw_115 xw_233 xw_231 xw_229 ⟨by decide, by decide, by decide +kernel⟩⟩, ⟨TX2, 2, rfl⟩, by decide +kernel, rfl⟩
theorem xcv_4_17_9_r : xCvR .invokevirtual 4 17 9 m_X10_askMark := ⟨⟨2, rfl, xr_O (x := yX4_askMark) (owner := "DustReads$Open") xw_230 xw_236 xw_239 xw_238 xw_112 xw_237 xw_231 xw_229 ⟨by decide, by decide, by decide +kernel⟩⟩, ⟨TX10, 2, rfl⟩, by decide +kernel, rfl⟩
theorem xcv_5_16_8_r : xCvR .invokevirtual 5 16 8 m_X9_leave := ⟨⟨1, rfl, xr_V xw_240 xw_137 xw_138 xw_99 xw_135 ⟨rfl, by decide, by decide, by decide +kernel⟩⟩, ⟨TX9, 2, rfl⟩, by decide +kernel, rfl⟩
theorem xcv_7_41_6_r : xCvR .invokevirtual 7 41 6 m_X7_advance := ⟨⟨0, rfl, xr_V xw_242 xw_243 xw_244 xw_102 xw_241 ⟨rfl, by decide, by decide, by decide +kernel⟩⟩, ⟨TX7, 8, rfl⟩, by decide +kernel, rfl⟩
theorem xcv_7_44_6_r : xCvR .invokevirtual 7 44 6 m_X7_readSpots := ⟨⟨0, rfl, xr_V xw_246 xw_247 xw_248 xw_102 xw_245 ⟨rfl, by decide, by decide, by decide +kernel⟩⟩, ⟨TX7, 8, rfl⟩, by decide +kernel, rfl⟩
theorem xcv_7_47_6_r : xCvR .invokevirtual 7 47 6 m_X7_readReaders := ⟨⟨0, rfl, xr_V xw_250 xw_251 xw_252 xw_102 xw_249 ⟨rfl, by decide, by decide, by decide +kernel⟩⟩, ⟨TX7, 8, rfl⟩, by decide +kernel, rfl⟩
theorem xcv_7_53_6_r : xCvR .invokevirtual 7 53 6 m_X7_fail := ⟨⟨1, rfl, xr_V xw_254 xw_255 xw_256 xw_102 xw_253 ⟨rfl, by decide, by decide, by decide +kernel⟩⟩, ⟨TX7, 8, rfl⟩, by decide +kernel, rfl⟩
theorem xcv_7_62_6_r : xCvR .invokevirtual 7 62 6 m_X7_isWord := ⟨⟨1, rfl, xr_V xw_258 xw_259 xw_260 xw_102 xw_257 ⟨rfl, by decide, by decide, by decide +kernel⟩⟩, ⟨TX7, 8, rfl⟩, by decide +kernel, rfl⟩
theorem xcv_7_66_6_r : xCvR .invokevirtual 7 66 6 m_X7_readSpot := ⟨⟨1, rfl, xr_V xw_262 xw_263 xw_264 xw_102 xw_261 ⟨rfl, by decide, by decide, by decide +kernel⟩⟩, ⟨TX7, 8, rfl⟩, by decide +kernel, rfl⟩
theorem xcv_7_69_6_r : xCvR .invokevirtual 7 69 6 m_X7_readKind := ⟨⟨0, rfl, xr_V xw_266 xw_267 xw_268 xw_102 xw_265 ⟨rfl, by decide, by decide, by decide +kernel⟩⟩, ⟨TX7, 8, rfl⟩, by decide +kernel, rfl⟩
theorem xcv_7_73_6_r : xCvR .invokevirtual 7 73 6 m_X7_readNumber := ⟨⟨2, rfl, xr_V xw_270 xw_271 xw_272 xw_102 xw_269 ⟨rfl, by decide, by decide, by decide +kernel⟩⟩, ⟨TX7, 8, rfl⟩, by decide +kernel, rfl⟩
theorem xcv_7_76_6_r : xCvR .invokevirtual 7 76 6 m_X7_readEnd := ⟨⟨0, rfl, xr_V xw_274 xw_275 xw_276 xw_102 xw_273 ⟨rfl, by decide, by decide, by decide +kernel⟩⟩, ⟨TX7, 8, rfl⟩, by decide +kernel, rfl⟩
theorem xcv_7_83_5_r : xCvR .invokevirtual 7 83 5 m_X6_addPlace := ⟨⟨1, rfl, xr_V xw_278 xw_279 xw_280 xw_105 xw_277 ⟨rfl, by decide, by decide, by decide +kernel⟩⟩, ⟨TX6, 5, rfl⟩, by decide +kernel, rfl⟩
theorem xcv_7_99_6_r : xCvR .invokevirtual 7 99 6 m_X7_readReader := ⟨⟨0, rfl, xr_V xw_282 xw_283 xw_284 xw_102 xw_281 ⟨rfl, by decide, by decide, by decide +kernel⟩⟩, ⟨TX7, 8, rfl⟩, by decide +kernel, rfl⟩
theorem xcv_7_102_5_r : xCvR .invokevirtual 7 102 5 m_X6_addReader := ⟨⟨2, rfl, xr_V xw_286 xw_287 xw_288 xw_105 xw_285 ⟨rfl, by decide, by decide, by decide +kernel⟩⟩, ⟨TX6, 5, rfl⟩, by decide +kernel, rfl⟩
theorem xcv_7_106_6_r : xCvR .invokevirtual 7 106 6 m_X7_kindOfWord := ⟨⟨0, rfl, xr_V xw_290 xw_291 xw_292 xw_102 xw_289 ⟨rfl, by decide, by decide, by decide +kernel⟩⟩, ⟨TX7, 8, rfl⟩, by decide +kernel, rfl⟩
theorem xcv_7_156_6_r : xCvR .invokevirtual 7 156 6 m_X7_advanceOverSign := ⟨⟨0, rfl, xr_V xw_294 xw_295 xw_296 xw_102 xw_293 ⟨rfl, by decide, by decide, by decide +kernel⟩⟩, ⟨TX7, 8, rfl⟩, by decide +kernel, rfl⟩
theorem xcv_8_29_7_r : xCvR .invokevirtual 8 29 7 m_X8_isMissing := ⟨⟨1, rfl, xr_V xw_298 xw_299 xw_300 xw_93 xw_297 ⟨rfl, by decide, by decide, by decide +kernel⟩⟩, ⟨TX8, 3, rfl⟩, by decide +kernel, rfl⟩
theorem xcv_8_33_7_r : xCvR .invokevirtual 8 33 7 m_X8_isWithin := ⟨⟨3, rfl, xr_V xw_302 xw_303 xw_304 xw_93 xw_301 ⟨rfl, by decide, by decide, by decide +kernel⟩⟩, ⟨TX8, 3, rfl⟩, by decide +kernel, rfl⟩
theorem xcv_10_9_8_r : xCvR .invokevirtual 10 9 8 m_X9_leave := ⟨⟨1, rfl, xr_V xw_305 xw_137 xw_138 xw_99 xw_135 ⟨rfl, by decide, by decide, by decide +kernel⟩⟩, ⟨TX9, 2, rfl⟩, by decide +kernel, rfl⟩
theorem xcv_11_43_7_r : xCvR .invokevirtual 11 43 7 m_X8_isRow := ⟨⟨1, rfl, xr_V xw_307 xw_308 xw_309 xw_93 xw_306 ⟨rfl, by decide, by decide, by decide +kernel⟩⟩, ⟨TX8, 3, rfl⟩, by decide +kernel, rfl⟩
theorem xcv_11_53_7_r : xCvR .invokevirtual 11 53 7 m_X8_lay := ⟨⟨3, rfl, xr_V xw_311 xw_312 xw_313 xw_93 xw_310 ⟨rfl, by decide, by decide, by decide +kernel⟩⟩, ⟨TX8, 3, rfl⟩, by decide +kernel, rfl⟩
theorem xcv_11_57_7_r : xCvR .invokevirtual 11 57 7 m_X8_findingAt := ⟨⟨3, rfl, xr_V xw_315 xw_316 xw_317 xw_93 xw_314 ⟨rfl, by decide, by decide, by decide +kernel⟩⟩, ⟨TX8, 3, rfl⟩, by decide +kernel, rfl⟩
theorem xcv_11_61_7_r : xCvR .invokevirtual 11 61 7 m_X8_put := ⟨⟨3, rfl, xr_V xw_319 xw_320 xw_321 xw_93 xw_318 ⟨rfl, by decide, by decide, by decide +kernel⟩⟩, ⟨TX8, 3, rfl⟩, by decide +kernel, rfl⟩
theorem xcv_11_64_7_r : xCvR .invokevirtual 11 64 7 m_X8_findingBetween := ⟨⟨5, rfl, xr_V xw_323 xw_324 xw_325 xw_93 xw_322 ⟨rfl, by decide, by decide, by decide +kernel⟩⟩, ⟨TX8, 3, rfl⟩, by decide +kernel, rfl⟩
theorem xcv_11_68_7_r : xCvR .invokevirtual 11 68 7 m_X8_carry := ⟨⟨5, rfl, xr_V xw_327 xw_328 xw_329 xw_93 xw_326 ⟨rfl, by decide, by decide, by decide +kernel⟩⟩, ⟨TX8, 3, rfl⟩, by decide +kernel, rfl⟩
theorem xcv_11_72_7_r : xCvR .invokevirtual 11 72 7 m_X8_isMissing := ⟨⟨1, rfl, xr_V xw_330 xw_299 xw_300 xw_93 xw_297 ⟨rfl, by decide, by decide, by decide +kernel⟩⟩, ⟨TX8, 3, rfl⟩, by decide +kernel, rfl⟩
theorem xcv_11_75_7_r : xCvR .invokevirtual 11 75 7 m_X8_remove := ⟨⟨1, rfl, xr_V xw_332 xw_333 xw_334 xw_93 xw_331 ⟨rfl, by decide, by decide, by decide +kernel⟩⟩, ⟨TX8, 3, rfl⟩, by decide +kernel, rfl⟩
theorem xcv_11_88_6_r : xCvR .invokevirtual 11 88 6 m_X7_isWhole := ⟨⟨0, rfl, xr_V xw_336 xw_337 xw_338 xw_102 xw_335 ⟨rfl, by decide, by decide, by decide +kernel⟩⟩, ⟨TX7, 8, rfl⟩, by decide +kernel, rfl⟩
theorem xcv_11_105_10_r : xCvR .invokevirtual 11 105 10 m_X11_forgetActs := ⟨⟨0, rfl, xr_V xw_340 xw_341 xw_342 xw_124 xw_339 ⟨rfl, by decide, by decide, by decide +kernel⟩⟩, ⟨TX11, 11, rfl⟩, by decide +kernel, rfl⟩
theorem xcv_11_108_3_r : xCvR .invokevirtual 11 108 3 m_X3_spots := ⟨⟨0, rfl, xr_V xw_343 xw_151 xw_152 xw_96 xw_149 ⟨rfl, by decide, by decide, by decide +kernel⟩⟩, ⟨TX3, 6, rfl⟩, by decide +kernel, rfl⟩
theorem xcv_11_112_3_r : xCvR .invokevirtual 11 112 3 m_X3_isThere := ⟨⟨0, rfl, xr_V xw_345 xw_346 xw_347 xw_96 xw_344 ⟨rfl, by decide, by decide, by decide +kernel⟩⟩, ⟨TX3, 6, rfl⟩, by decide +kernel, rfl⟩
theorem xcv_11_119_10_r : xCvR .invokevirtual 11 119 10 m_X11_keepForUndo := ⟨⟨0, rfl, xr_V xw_349 xw_350 xw_351 xw_124 xw_348 ⟨rfl, by decide, by decide, by decide +kernel⟩⟩, ⟨TX11, 11, rfl⟩, by decide +kernel, rfl⟩
theorem xcv_11_122_3_r : xCvR .invokevirtual 11 122 3 m_X3_passHour := ⟨⟨0, rfl, xr_V xw_353 xw_354 xw_355 xw_96 xw_352 ⟨rfl, by decide, by decide, by decide +kernel⟩⟩, ⟨TX3, 6, rfl⟩, by decide +kernel, rfl⟩
theorem xcv_11_125_3_r : xCvR .invokevirtual 11 125 3 m_X3_isSpot := ⟨⟨1, rfl, xr_V xw_357 xw_358 xw_359 xw_96 xw_356 ⟨rfl, by decide, by decide, by decide +kernel⟩⟩, ⟨TX3, 6, rfl⟩, by decide +kernel, rfl⟩
theorem xcv_11_128_3_r : xCvR .invokevirtual 11 128 3 m_X3_isOut := ⟨⟨1, rfl, xr_V xw_360 xw_163 xw_164 xw_96 xw_161 ⟨rfl, by decide, by decide, by decide +kernel⟩⟩, ⟨TX3, 6, rfl⟩, by decide +kernel, rfl⟩
theorem xcv_11_135_3_r : xCvR .invokevirtual 11 135 3 m_X3_wipe := ⟨⟨1, rfl, xr_V xw_361 xw_175 xw_176 xw_96 xw_173 ⟨rfl, by decide, by decide, by decide +kernel⟩⟩, ⟨TX3, 6, rfl⟩, by decide +kernel, rfl⟩
theorem xcv_11_138_3_r : xCvR .invokevirtual 11 138 3 m_X3_swap := ⟨⟨2, rfl, xr_V xw_363 xw_364 xw_365 xw_96 xw_362 ⟨rfl, by decide, by decide, by decide +kernel⟩⟩, ⟨TX3, 6, rfl⟩, by decide +kernel, rfl⟩
theorem xcv_11_145_3_r : xCvR .invokevirtual 11 145 3 m_X3_isSet := ⟨⟨1, rfl, xr_V xw_367 xw_368 xw_369 xw_96 xw_366 ⟨rfl, by decide, by decide, by decide +kernel⟩⟩, ⟨TX3, 6, rfl⟩, by decide +kernel, rfl⟩
theorem xcv_11_158_3_r : xCvR .invokevirtual 11 158 3 m_X3_become := ⟨⟨1, rfl, xr_V xw_371 xw_372 xw_373 xw_96 xw_370 ⟨rfl, by decide, by decide, by decide +kernel⟩⟩, ⟨TX3, 6, rfl⟩, by decide +kernel, rfl⟩
theorem xcv_11_162_3_r : xCvR .invokevirtual 11 162 3 m_X3_placeAt := ⟨⟨1, rfl, xr_V xw_374 xw_183 xw_184 xw_96 xw_181 ⟨rfl, by decide, by decide, by decide +kernel⟩⟩, ⟨TX3, 6, rfl⟩, by decide +kernel, rfl⟩
theorem xcv_11_180_0_r : xCvR .invokevirtual 11 180 0 m_X0_fallBy := ⟨⟨2, rfl, xr_O (x := yX5_fallBy) (owner := "DustReads$Place") xw_375 xw_201 xw_200 xw_199 xw_118 xw_197 xw_202 xw_203 ⟨by decide, by decide, by decide +kernel⟩⟩, ⟨TX0, 2, rfl⟩, by decide +kernel, rfl⟩
theorem xcv_11_180_1_r : xCvR .invokevirtual 11 180 1 m_X1_fallBy := ⟨⟨2, rfl, xr_O (x := yX5_fallBy) (owner := "DustReads$Place") xw_375 xw_201 xw_206 xw_205 xw_121 xw_204 xw_202 xw_203 ⟨by decide, by decide, by decide +kernel⟩⟩, ⟨TX1, 2, rfl⟩, by decide +kernel, rfl⟩
theorem xcv_11_180_2_r : xCvR .invokevirtual 11 180 2 m_X2_fallBy := ⟨⟨2, rfl, xr_O (x := yX5_fallBy) (owner := "DustReads$Place") xw_375 xw_201 xw_209 xw_208 xw_115 xw_207 xw_202 xw_203 ⟨by decide, by decide, by decide +kernel⟩⟩, ⟨TX2, 2, rfl⟩, by decide +kernel, rfl⟩
theorem xcv_11_180_4_r : xCvR .invokevirtual 11 180 4 m_X5_fallBy := ⟨⟨2, rfl, xr_U (x := yX5_fallBy) (owner := "DustReads$Place") xw_375 xw_201 xw_210 xw_202 xw_189 xw_203 rfl ⟨by decide, by decide, by decide +kernel⟩⟩, ⟨TX4, 2, rfl⟩, by decide +kernel, rfl⟩
theorem xcv_11_180_9_r : xCvR .invokevirtual 11 180 9 m_X5_fallBy := ⟨⟨2, rfl, xr_U (x := yX5_fallBy) (owner := "DustReads$Place") xw_375 xw_201 xw_211 xw_202 xw_189 xw_203 rfl ⟨by decide, by decide, by decide +kernel⟩⟩, ⟨TX10, 2, rfl⟩, by decide +kernel, rfl⟩
theorem xcv_11_184_0_r : xCvR .invokevirtual 11 184 0 m_X5_sunIn := ⟨⟨1, rfl, xr_U (x := yX5_sunIn) (owner := "DustReads$Place") xw_376 xw_190 xw_188 xw_187 xw_189 xw_185 rfl ⟨by decide, by decide, by decide +kernel⟩⟩, ⟨TX0, 2, rfl⟩, by decide +kernel, rfl⟩
theorem xcv_11_184_1_r : xCvR .invokevirtual 11 184 1 m_X5_sunIn := ⟨⟨1, rfl, xr_U (x := yX5_sunIn) (owner := "DustReads$Place") xw_376 xw_190 xw_191 xw_187 xw_189 xw_185 rfl ⟨by decide, by decide, by decide +kernel⟩⟩, ⟨TX1, 2, rfl⟩, by decide +kernel, rfl⟩
theorem xcv_11_184_2_r : xCvR .invokevirtual 11 184 2 m_X5_sunIn := ⟨⟨1, rfl, xr_U (x := yX5_sunIn) (owner := "DustReads$Place") xw_376 xw_190 xw_192 xw_187 xw_189 xw_185 rfl ⟨by decide, by decide, by decide +kernel⟩⟩, ⟨TX2, 2, rfl⟩, by decide +kernel, rfl⟩
theorem xcv_11_184_4_r : xCvR .invokevirtual 11 184 4 m_X5_sunIn := ⟨⟨1, rfl, xr_U (x := yX5_sunIn) (owner := "DustReads$Place") xw_376 xw_190 xw_193 xw_187 xw_189 xw_185 rfl ⟨by decide, by decide, by decide +kernel⟩⟩, ⟨TX4, 2, rfl⟩, by decide +kernel, rfl⟩
theorem xcv_11_184_9_r : xCvR .invokevirtual 11 184 9 m_X10_sunIn := ⟨⟨1, rfl, xr_O (x := yX5_sunIn) (owner := "DustReads$Place") xw_376 xw_190 xw_196 xw_195 xw_112 xw_194 xw_187 xw_185 ⟨by decide, by decide, by decide +kernel⟩⟩, ⟨TX10, 2, rfl⟩, by decide +kernel, rfl⟩
theorem xcv_11_187_3_r : xCvR .invokevirtual 11 187 3 m_X3_dustBehind := ⟨⟨2, rfl, xr_V xw_378 xw_379 xw_380 xw_96 xw_377 ⟨rfl, by decide, by decide, by decide +kernel⟩⟩, ⟨TX3, 6, rfl⟩, by decide +kernel, rfl⟩
theorem xcv_11_190_3_r : xCvR .invokevirtual 11 190 3 m_X3_fadedBehind := ⟨⟨2, rfl, xr_V xw_382 xw_383 xw_384 xw_96 xw_381 ⟨rfl, by decide, by decide, by decide +kernel⟩⟩, ⟨TX3, 6, rfl⟩, by decide +kernel, rfl⟩
theorem xcv_11_193_10_r : xCvR .invokevirtual 11 193 10 m_X11_canLie := ⟨⟨2, rfl, xr_V xw_386 xw_387 xw_388 xw_124 xw_385 ⟨rfl, by decide, by decide, by decide +kernel⟩⟩, ⟨TX11, 11, rfl⟩, by decide +kernel, rfl⟩
theorem xcv_11_196_3_r : xCvR .invokevirtual 11 196 3 m_X3_firstTouch := ⟨⟨2, rfl, xr_V xw_389 xw_218 xw_219 xw_96 xw_216 ⟨rfl, by decide, by decide, by decide +kernel⟩⟩, ⟨TX3, 6, rfl⟩, by decide +kernel, rfl⟩
theorem xcv_11_199_3_r : xCvR .invokevirtual 11 199 3 m_X3_lastTouch := ⟨⟨2, rfl, xr_V xw_390 xw_214 xw_215 xw_96 xw_212 ⟨rfl, by decide, by decide, by decide +kernel⟩⟩, ⟨TX3, 6, rfl⟩, by decide +kernel, rfl⟩
theorem xcv_11_202_3_r : xCvR .invokevirtual 11 202 3 m_X3_suspects := ⟨⟨3, rfl, xr_V xw_392 xw_393 xw_394 xw_96 xw_391 ⟨rfl, by decide, by decide, by decide +kernel⟩⟩, ⟨TX3, 6, rfl⟩, by decide +kernel, rfl⟩
theorem xcv_11_206_3_r : xCvR .invokevirtual 11 206 3 m_X3_allReaders := ⟨⟨0, rfl, xr_V xw_395 xw_222 xw_223 xw_96 xw_220 ⟨rfl, by decide, by decide, by decide +kernel⟩⟩, ⟨TX3, 6, rfl⟩, by decide +kernel, rfl⟩
theorem xcv_11_210_3_r : xCvR .invokevirtual 11 210 3 m_X3_dustNext := ⟨⟨3, rfl, xr_V xw_396 xw_167 xw_168 xw_96 xw_165 ⟨rfl, by decide, by decide, by decide +kernel⟩⟩, ⟨TX3, 6, rfl⟩, by decide +kernel, rfl⟩
theorem xcv_11_213_3_r : xCvR .invokevirtual 11 213 3 m_X3_allSpots := ⟨⟨0, rfl, xr_V xw_397 xw_159 xw_160 xw_96 xw_157 ⟨rfl, by decide, by decide, by decide +kernel⟩⟩, ⟨TX3, 6, rfl⟩, by decide +kernel, rfl⟩
theorem xcv_11_221_3_r : xCvR .invokevirtual 11 221 3 m_X3_spreadWithout := ⟨⟨1, rfl, xr_V xw_399 xw_400 xw_401 xw_96 xw_398 ⟨rfl, by decide, by decide, by decide +kernel⟩⟩, ⟨TX3, 6, rfl⟩, by decide +kernel, rfl⟩
theorem xcv_11_224_10_r : xCvR .invokevirtual 11 224 10 m_X11_wouldTell := ⟨⟨6, rfl, xr_V xw_403 xw_404 xw_405 xw_124 xw_402 ⟨rfl, by decide, by decide, by decide +kernel⟩⟩, ⟨TX11, 11, rfl⟩, by decide +kernel, rfl⟩
theorem xcv_11_228_0_r : xCvR .invokevirtual 11 228 0 m_X0_kindTold := ⟨⟨0, rfl, xr_A (x := ⟨"DustReads$Place", "kindTold", "()I"⟩) xw_407 xw_410 xw_409 xw_408 xw_118 xw_406 ⟨rfl, rfl⟩ (by decide +kernel)⟩, ⟨TX0, 2, rfl⟩, by decide +kernel, rfl⟩
theorem xcv_11_228_1_r : xCvR .invokevirtual 11 228 1 m_X1_kindTold := ⟨⟨0, rfl, xr_A (x := ⟨"DustReads$Place", "kindTold", "()I"⟩) xw_407 xw_410 xw_413 xw_412 xw_121 xw_411 ⟨rfl, rfl⟩ (by decide +kernel)⟩, ⟨TX1, 2, rfl⟩, by decide +kernel, rfl⟩
theorem xcv_11_228_2_r : xCvR .invokevirtual 11 228 2 m_X2_kindTold := ⟨⟨0, rfl, xr_A (x := ⟨"DustReads$Place", "kindTold", "()I"⟩) xw_407 xw_410 xw_416 xw_415 xw_115 xw_414 ⟨rfl, rfl⟩ (by decide +kernel)⟩, ⟨TX2, 2, rfl⟩, by decide +kernel, rfl⟩
theorem xcv_11_228_4_r : xCvR .invokevirtual 11 228 4 m_X4_kindTold := ⟨⟨0, rfl, xr_A (x := ⟨"DustReads$Place", "kindTold", "()I"⟩) xw_407 xw_410 xw_419 xw_418 xw_109 xw_417 ⟨rfl, rfl⟩ (by decide +kernel)⟩, ⟨TX4, 2, rfl⟩, by decide +kernel, rfl⟩
theorem xcv_11_228_9_r : xCvR .invokevirtual 11 228 9 m_X10_kindTold := ⟨⟨0, rfl, xr_A (x := ⟨"DustReads$Place", "kindTold", "()I"⟩) xw_407 xw_410 xw_422 xw_421 xw_112 xw_420 ⟨rfl, rfl⟩ (by decide +kernel)⟩, ⟨TX10, 2, rfl⟩, by decide +kernel, rfl⟩
theorem xcv_11_238_8_r : xCvR .invokevirtual 11 238 8 m_X9_clear := ⟨⟨0, rfl, xr_V xw_424 xw_425 xw_426 xw_99 xw_423 ⟨rfl, by decide, by decide, by decide +kernel⟩⟩, ⟨TX9, 2, rfl⟩, by decide +kernel, rfl⟩
theorem xcv_11_241_0_r : xCvR .invokevirtual 11 241 0 m_X0_askSize := ⟨⟨2, rfl, xr_O (x := yX5_askSize) (owner := "DustReads$Place") xw_427 xw_429 xw_428 xw_141 xw_118 xw_139 xw_430 xw_431 ⟨by decide, by decide, by decide +kernel⟩⟩, ⟨TX0, 2, rfl⟩, by decide +kernel, rfl⟩
theorem xcv_11_241_1_r : xCvR .invokevirtual 11 241 1 m_X1_askSize := ⟨⟨2, rfl, xr_O (x := yX5_askSize) (owner := "DustReads$Place") xw_427 xw_429 xw_432 xw_144 xw_121 xw_143 xw_430 xw_431 ⟨by decide, by decide, by decide +kernel⟩⟩, ⟨TX1, 2, rfl⟩, by decide +kernel, rfl⟩
theorem xcv_11_241_2_r : xCvR .invokevirtual 11 241 2 m_X4_askSize := ⟨⟨2, rfl, xr_O (x := yX5_askSize) (owner := "DustReads$Place") xw_427 xw_429 xw_435 xw_434 xw_109 xw_433 xw_430 xw_431 ⟨by decide, by decide, by decide +kernel⟩⟩, ⟨TX2, 2, rfl⟩, by decide +kernel, rfl⟩
theorem xcv_11_241_4_r : xCvR .invokevirtual 11 241 4 m_X4_askSize := ⟨⟨2, rfl, xr_O (x := yX5_askSize) (owner := "DustReads$Place") xw_427 xw_429 xw_436 xw_434 xw_109 xw_433 xw_430 xw_431 ⟨by decide, by decide, by decide +kernel⟩⟩, ⟨TX4, 2, rfl⟩, by decide +kernel, rfl⟩
theorem xcv_11_241_9_r : xCvR .invokevirtual 11 241 9 m_X10_askSize := ⟨⟨2, rfl, xr_O (x := yX5_askSize) (owner := "DustReads$Place") xw_427 xw_429 xw_439 xw_438 xw_112 xw_437 xw_430 xw_431 ⟨by decide, by decide, by decide +kernel⟩⟩, ⟨TX10, 2, rfl⟩, by decide +kernel, rfl⟩
theorem xcv_11_245_0_r : xCvR .invokevirtual 11 245 0 m_X0_askMark := ⟨⟨2, rfl, xr_O (x := yX5_askMark) (owner := "DustReads$Place") xw_441 xw_444 xw_443 xw_442 xw_118 xw_440 xw_445 xw_446 ⟨by decide, by decide, by decide +kernel⟩⟩, ⟨TX0, 2, rfl⟩, by decide +kernel, rfl⟩
theorem xcv_11_245_1_r : xCvR .invokevirtual 11 245 1 m_X0_askMark := ⟨⟨2, rfl, xr_O (x := yX5_askMark) (owner := "DustReads$Place") xw_441 xw_444 xw_447 xw_442 xw_118 xw_440 xw_445 xw_446 ⟨by decide, by decide, by decide +kernel⟩⟩, ⟨TX1, 2, rfl⟩, by decide +kernel, rfl⟩
theorem xcv_11_245_2_r : xCvR .invokevirtual 11 245 2 m_X2_askMark := ⟨⟨2, rfl, xr_O (x := yX5_askMark) (owner := "DustReads$Place") xw_441 xw_444 xw_448 xw_234 xw_115 xw_233 xw_445 xw_446 ⟨by decide, by decide, by decide +kernel⟩⟩, ⟨TX2, 2, rfl⟩, by decide +kernel, rfl⟩
theorem xcv_11_245_4_r : xCvR .invokevirtual 11 245 4 m_X4_askMark := ⟨⟨2, rfl, xr_O (x := yX5_askMark) (owner := "DustReads$Place") xw_441 xw_444 xw_449 xw_231 xw_109 xw_229 xw_445 xw_446 ⟨by decide, by decide, by decide +kernel⟩⟩, ⟨TX4, 2, rfl⟩, by decide +kernel, rfl⟩
theorem xcv_11_245_9_r : xCvR .invokevirtual 11 245 9 m_X10_askMark := ⟨⟨2, rfl, xr_O (x := yX5_askMark) (owner := "DustReads$Place") xw_441 xw_444 xw_450 xw_238 xw_112 xw_237 xw_445 xw_446 ⟨by decide, by decide, by decide +kernel⟩⟩, ⟨TX10, 2, rfl⟩, by decide +kernel, rfl⟩
theorem xcv_11_248_8_r : xCvR .invokevirtual 11 248 8 m_X9_numberAt := ⟨⟨1, rfl, xr_V xw_452 xw_453 xw_454 xw_99 xw_451 ⟨rfl, by decide, by decide, by decide +kernel⟩⟩, ⟨TX9, 2, rfl⟩, by decide +kernel, rfl⟩
theorem xcv_11_251_7_r : xCvR .invokevirtual 11 251 7 m_X8_howMany := ⟨⟨0, rfl, xr_V xw_456 xw_457 xw_458 xw_93 xw_455 ⟨rfl, by decide, by decide, by decide +kernel⟩⟩, ⟨TX8, 3, rfl⟩, by decide +kernel, rfl⟩
theorem xcv_11_254_3_r : xCvR .invokevirtual 11 254 3 m_X3_readers := ⟨⟨0, rfl, xr_V xw_459 xw_155 xw_156 xw_96 xw_153 ⟨rfl, by decide, by decide, by decide +kernel⟩⟩, ⟨TX3, 6, rfl⟩, by decide +kernel, rfl⟩
theorem xcv_11_257_3_r : xCvR .invokevirtual 11 257 3 m_X3_howManyOut := ⟨⟨0, rfl, xr_V xw_461 xw_462 xw_463 xw_96 xw_460 ⟨rfl, by decide, by decide, by decide +kernel⟩⟩, ⟨TX3, 6, rfl⟩, by decide +kernel, rfl⟩
theorem xcv_11_263_7_r : xCvR .invokevirtual 11 263 7 m_X8_itemAt := ⟨⟨2, rfl, xr_V xw_465 xw_466 xw_467 xw_93 xw_464 ⟨rfl, by decide, by decide, by decide +kernel⟩⟩, ⟨TX8, 3, rfl⟩, by decide +kernel, rfl⟩
theorem xcv_12_56_11_r : xCvR .invokevirtual 12 56 11 m_X12_found := ⟨⟨1, rfl, xr_V xw_469 xw_470 xw_471 xw_127 xw_468 ⟨rfl, by decide, by decide, by decide +kernel⟩⟩, ⟨TX12, 25, rfl⟩, by decide +kernel, rfl⟩
theorem xcv_12_60_11_r : xCvR .invokevirtual 12 60 11 m_X12_well := ⟨⟨1, rfl, xr_V xw_473 xw_474 xw_475 xw_127 xw_472 ⟨rfl, by decide, by decide, by decide +kernel⟩⟩, ⟨TX12, 25, rfl⟩, by decide +kernel, rfl⟩
theorem xcv_12_63_11_r : xCvR .invokevirtual 12 63 11 m_X12_isSpan := ⟨⟨3, rfl, xr_V xw_477 xw_478 xw_479 xw_127 xw_476 ⟨rfl, by decide, by decide, by decide +kernel⟩⟩, ⟨TX12, 25, rfl⟩, by decide +kernel, rfl⟩
theorem xcv_12_75_11_r : xCvR .invokevirtual 12 75 11 m_X12_byteAt := ⟨⟨1, rfl, xr_V xw_481 xw_482 xw_483 xw_127 xw_480 ⟨rfl, by decide, by decide, by decide +kernel⟩⟩, ⟨TX12, 25, rfl⟩, by decide +kernel, rfl⟩
theorem xcv_12_94_11_r : xCvR .invokevirtual 12 94 11 m_X12_next := ⟨⟨0, rfl, xr_V xw_485 xw_486 xw_487 xw_127 xw_484 ⟨rfl, by decide, by decide, by decide +kernel⟩⟩, ⟨TX12, 25, rfl⟩, by decide +kernel, rfl⟩
theorem xcv_12_97_11_r : xCvR .invokevirtual 12 97 11 m_X12_must := ⟨⟨2, rfl, xr_V xw_489 xw_490 xw_491 xw_127 xw_488 ⟨rfl, by decide, by decide, by decide +kernel⟩⟩, ⟨TX12, 25, rfl⟩, by decide +kernel, rfl⟩
theorem xcv_12_101_11_r : xCvR .invokevirtual 12 101 11 m_X12_goesOn := ⟨⟨0, rfl, xr_V xw_493 xw_494 xw_495 xw_127 xw_492 ⟨rfl, by decide, by decide, by decide +kernel⟩⟩, ⟨TX12, 25, rfl⟩, by decide +kernel, rfl⟩
theorem xcv_12_106_11_r : xCvR .invokevirtual 12 106 11 m_X12_isName := ⟨⟨1, rfl, xr_V xw_497 xw_498 xw_499 xw_127 xw_496 ⟨rfl, by decide, by decide, by decide +kernel⟩⟩, ⟨TX12, 25, rfl⟩, by decide +kernel, rfl⟩
theorem xcv_12_120_11_r : xCvR .invokevirtual 12 120 11 m_X12_sortNow := ⟨⟨0, rfl, xr_V xw_501 xw_502 xw_503 xw_127 xw_500 ⟨rfl, by decide, by decide, by decide +kernel⟩⟩, ⟨TX12, 25, rfl⟩, by decide +kernel, rfl⟩
theorem xcv_12_124_11_r : xCvR .invokevirtual 12 124 11 m_X12_readNumber := ⟨⟨3, rfl, xr_V xw_505 xw_506 xw_507 xw_127 xw_504 ⟨rfl, by decide, by decide, by decide +kernel⟩⟩, ⟨TX12, 25, rfl⟩, by decide +kernel, rfl⟩
theorem xcv_12_128_11_r : xCvR .invokevirtual 12 128 11 m_X12_readStop := ⟨⟨0, rfl, xr_V xw_509 xw_510 xw_511 xw_127 xw_508 ⟨rfl, by decide, by decide, by decide +kernel⟩⟩, ⟨TX12, 25, rfl⟩, by decide +kernel, rfl⟩
theorem xcv_12_131_11_r : xCvR .invokevirtual 12 131 11 m_X12_readSpot := ⟨⟨0, rfl, xr_V xw_513 xw_514 xw_515 xw_127 xw_512 ⟨rfl, by decide, by decide, by decide +kernel⟩⟩, ⟨TX12, 25, rfl⟩, by decide +kernel, rfl⟩
theorem xcv_12_136_11_r : xCvR .invokevirtual 12 136 11 m_X12_readReader := ⟨⟨0, rfl, xr_V xw_517 xw_518 xw_519 xw_127 xw_516 ⟨rfl, by decide, by decide, by decide +kernel⟩⟩, ⟨TX12, 25, rfl⟩, by decide +kernel, rfl⟩
theorem xcv_12_146_11_r : xCvR .invokevirtual 12 146 11 m_X12_fallBy := ⟨⟨3, rfl, xr_V xw_521 xw_522 xw_523 xw_127 xw_520 ⟨rfl, by decide, by decide, by decide +kernel⟩⟩, ⟨TX12, 25, rfl⟩, by decide +kernel, rfl⟩
theorem xcv_12_149_11_r : xCvR .invokevirtual 12 149 11 m_X12_isLibrary := ⟨⟨0, rfl, xr_V xw_525 xw_526 xw_527 xw_127 xw_524 ⟨rfl, by decide, by decide, by decide +kernel⟩⟩, ⟨TX12, 25, rfl⟩, by decide +kernel, rfl⟩
theorem xcv_12_154_11_r : xCvR .invokevirtual 12 154 11 m_X12_remembers := ⟨⟨0, rfl, xr_V xw_529 xw_530 xw_531 xw_127 xw_528 ⟨rfl, by decide, by decide, by decide +kernel⟩⟩, ⟨TX12, 25, rfl⟩, by decide +kernel, rfl⟩
theorem xcv_12_157_11_r : xCvR .invokevirtual 12 157 11 m_X12_fallOf := ⟨⟨2, rfl, xr_V xw_533 xw_534 xw_535 xw_127 xw_532 ⟨rfl, by decide, by decide, by decide +kernel⟩⟩, ⟨TX12, 25, rfl⟩, by decide +kernel, rfl⟩
theorem xcv_12_164_11_r : xCvR .invokevirtual 12 164 11 m_X12_sunOf := ⟨⟨2, rfl, xr_V xw_537 xw_538 xw_539 xw_127 xw_536 ⟨rfl, by decide, by decide, by decide +kernel⟩⟩, ⟨TX12, 25, rfl⟩, by decide +kernel, rfl⟩
theorem xcv_12_167_11_r : xCvR .invokevirtual 12 167 11 m_X12_isSpot := ⟨⟨1, rfl, xr_V xw_541 xw_542 xw_543 xw_127 xw_540 ⟨rfl, by decide, by decide, by decide +kernel⟩⟩, ⟨TX12, 25, rfl⟩, by decide +kernel, rfl⟩
theorem xcv_12_170_11_r : xCvR .invokevirtual 12 170 11 m_X12_isSet := ⟨⟨1, rfl, xr_V xw_545 xw_546 xw_547 xw_127 xw_544 ⟨rfl, by decide, by decide, by decide +kernel⟩⟩, ⟨TX12, 25, rfl⟩, by decide +kernel, rfl⟩
theorem xcv_12_183_11_r : xCvR .invokevirtual 12 183 11 m_X12_goes := ⟨⟨2, rfl, xr_V xw_549 xw_550 xw_551 xw_127 xw_548 ⟨rfl, by decide, by decide, by decide +kernel⟩⟩, ⟨TX12, 25, rfl⟩, by decide +kernel, rfl⟩
theorem xcv_12_193_11_r : xCvR .invokevirtual 12 193 11 m_X12_findWhen := ⟨⟨2, rfl, xr_V xw_553 xw_554 xw_555 xw_127 xw_552 ⟨rfl, by decide, by decide, by decide +kernel⟩⟩, ⟨TX12, 25, rfl⟩, by decide +kernel, rfl⟩
theorem xcv_12_196_11_r : xCvR .invokevirtual 12 196 11 m_X12_whoOf := ⟨⟨1, rfl, xr_V xw_557 xw_558 xw_559 xw_127 xw_556 ⟨rfl, by decide, by decide, by decide +kernel⟩⟩, ⟨TX12, 25, rfl⟩, by decide +kernel, rfl⟩
theorem xcv_12_203_11_r : xCvR .invokevirtual 12 203 11 m_X12_areLike := ⟨⟨2, rfl, xr_V xw_561 xw_562 xw_563 xw_127 xw_560 ⟨rfl, by decide, by decide, by decide +kernel⟩⟩, ⟨TX12, 25, rfl⟩, by decide +kernel, rfl⟩
theorem xcv_12_212_11_r : xCvR .invokevirtual 12 212 11 m_X12_begins := ⟨⟨1, rfl, xr_V xw_565 xw_566 xw_567 xw_127 xw_564 ⟨rfl, by decide, by decide, by decide +kernel⟩⟩, ⟨TX12, 25, rfl⟩, by decide +kernel, rfl⟩
theorem xcv_12_216_11_r : xCvR .invokevirtual 12 216 11 m_X12_lentMark := ⟨⟨1, rfl, xr_V xw_569 xw_570 xw_571 xw_127 xw_568 ⟨rfl, by decide, by decide, by decide +kernel⟩⟩, ⟨TX12, 25, rfl⟩, by decide +kernel, rfl⟩
theorem xcv_12_219_11_r : xCvR .invokevirtual 12 219 11 m_X12_openMark := ⟨⟨1, rfl, xr_V xw_573 xw_574 xw_575 xw_127 xw_572 ⟨rfl, by decide, by decide, by decide +kernel⟩⟩, ⟨TX12, 25, rfl⟩, by decide +kernel, rfl⟩
theorem xcv_12_222_11_r : xCvR .invokevirtual 12 222 11 m_X12_lentSize := ⟨⟨1, rfl, xr_V xw_577 xw_578 xw_579 xw_127 xw_576 ⟨rfl, by decide, by decide, by decide +kernel⟩⟩, ⟨TX12, 25, rfl⟩, by decide +kernel, rfl⟩
theorem xcv_12_225_11_r : xCvR .invokevirtual 12 225 11 m_X12_markOfOpen := ⟨⟨1, rfl, xr_V xw_581 xw_582 xw_583 xw_127 xw_580 ⟨rfl, by decide, by decide, by decide +kernel⟩⟩, ⟨TX12, 25, rfl⟩, by decide +kernel, rfl⟩
theorem xcv_12_228_11_r : xCvR .invokevirtual 12 228 11 m_X12_cornerSize := ⟨⟨1, rfl, xr_V xw_585 xw_586 xw_587 xw_127 xw_584 ⟨rfl, by decide, by decide, by decide +kernel⟩⟩, ⟨TX12, 25, rfl⟩, by decide +kernel, rfl⟩
theorem xcv_12_231_11_r : xCvR .invokevirtual 12 231 11 m_X12_sizeOfCorners := ⟨⟨1, rfl, xr_V xw_589 xw_590 xw_591 xw_127 xw_588 ⟨rfl, by decide, by decide, by decide +kernel⟩⟩, ⟨TX12, 25, rfl⟩, by decide +kernel, rfl⟩
theorem xcv_12_234_11_r : xCvR .invokevirtual 12 234 11 m_X12_openSize := ⟨⟨1, rfl, xr_V xw_593 xw_594 xw_595 xw_127 xw_592 ⟨rfl, by decide, by decide, by decide +kernel⟩⟩, ⟨TX12, 25, rfl⟩, by decide +kernel, rfl⟩
theorem xcv_12_237_11_r : xCvR .invokevirtual 12 237 11 m_X12_sizeOf := ⟨⟨1, rfl, xr_V xw_597 xw_598 xw_599 xw_127 xw_596 ⟨rfl, by decide, by decide, by decide +kernel⟩⟩, ⟨TX12, 25, rfl⟩, by decide +kernel, rfl⟩
theorem xcv_12_240_11_r : xCvR .invokevirtual 12 240 11 m_X12_markOf := ⟨⟨1, rfl, xr_V xw_601 xw_602 xw_603 xw_127 xw_600 ⟨rfl, by decide, by decide, by decide +kernel⟩⟩, ⟨TX12, 25, rfl⟩, by decide +kernel, rfl⟩
theorem xcv_12_243_11_r : xCvR .invokevirtual 12 243 11 m_X12_outNow := ⟨⟨0, rfl, xr_V xw_605 xw_606 xw_607 xw_127 xw_604 ⟨rfl, by decide, by decide, by decide +kernel⟩⟩, ⟨TX12, 25, rfl⟩, by decide +kernel, rfl⟩
theorem xcv_13_13_10_r : xCvR .invokevirtual 13 13 10 m_X11_row := ⟨⟨3, rfl, xr_V xw_609 xw_610 xw_611 xw_124 xw_608 ⟨rfl, by decide, by decide, by decide +kernel⟩⟩, ⟨TX11, 11, rfl⟩, by decide +kernel, rfl⟩
theorem xcv_13_17_11_r : xCvR .invokevirtual 13 17 11 m_X12_row := ⟨⟨3, rfl, xr_V xw_613 xw_614 xw_615 xw_127 xw_612 ⟨rfl, by decide, by decide, by decide +kernel⟩⟩, ⟨TX12, 25, rfl⟩, by decide +kernel, rfl⟩
theorem xcv_13_18_10_r : xCvR .invokevirtual 13 18 10 m_X11_set := ⟨⟨3, rfl, xr_V xw_617 xw_618 xw_619 xw_124 xw_616 ⟨rfl, by decide, by decide, by decide +kernel⟩⟩, ⟨TX11, 11, rfl⟩, by decide +kernel, rfl⟩
theorem xcv_13_21_11_r : xCvR .invokevirtual 13 21 11 m_X12_set := ⟨⟨3, rfl, xr_V xw_621 xw_622 xw_623 xw_127 xw_620 ⟨rfl, by decide, by decide, by decide +kernel⟩⟩, ⟨TX12, 25, rfl⟩, by decide +kernel, rfl⟩
theorem xcv_13_22_10_r : xCvR .invokevirtual 13 22 10 m_X11_copy := ⟨⟨5, rfl, xr_V xw_625 xw_626 xw_627 xw_124 xw_624 ⟨rfl, by decide, by decide, by decide +kernel⟩⟩, ⟨TX11, 11, rfl⟩, by decide +kernel, rfl⟩
theorem xcv_13_26_11_r : xCvR .invokevirtual 13 26 11 m_X12_copy := ⟨⟨5, rfl, xr_V xw_629 xw_630 xw_631 xw_127 xw_628 ⟨rfl, by decide, by decide, by decide +kernel⟩⟩, ⟨TX12, 25, rfl⟩, by decide +kernel, rfl⟩
theorem xcv_13_27_10_r : xCvR .invokevirtual 13 27 10 m_X11_drop := ⟨⟨1, rfl, xr_V xw_633 xw_634 xw_635 xw_124 xw_632 ⟨rfl, by decide, by decide, by decide +kernel⟩⟩, ⟨TX11, 11, rfl⟩, by decide +kernel, rfl⟩
theorem xcv_13_31_11_r : xCvR .invokevirtual 13 31 11 m_X12_drop := ⟨⟨1, rfl, xr_V xw_637 xw_638 xw_639 xw_127 xw_636 ⟨rfl, by decide, by decide, by decide +kernel⟩⟩, ⟨TX12, 25, rfl⟩, by decide +kernel, rfl⟩
theorem xcv_13_34_10_r : xCvR .invokevirtual 13 34 10 m_X11_feed := ⟨⟨2, rfl, xr_V xw_641 xw_642 xw_643 xw_124 xw_640 ⟨rfl, by decide, by decide, by decide +kernel⟩⟩, ⟨TX11, 11, rfl⟩, by decide +kernel, rfl⟩
theorem xcv_13_38_11_r : xCvR .invokevirtual 13 38 11 m_X12_feed := ⟨⟨2, rfl, xr_V xw_645 xw_646 xw_647 xw_127 xw_644 ⟨rfl, by decide, by decide, by decide +kernel⟩⟩, ⟨TX12, 25, rfl⟩, by decide +kernel, rfl⟩
theorem xcv_13_39_10_r : xCvR .invokevirtual 13 39 10 m_X11_library := ⟨⟨0, rfl, xr_V xw_649 xw_650 xw_651 xw_124 xw_648 ⟨rfl, by decide, by decide, by decide +kernel⟩⟩, ⟨TX11, 11, rfl⟩, by decide +kernel, rfl⟩
theorem xcv_13_43_11_r : xCvR .invokevirtual 13 43 11 m_X12_library := ⟨⟨0, rfl, xr_V xw_653 xw_654 xw_655 xw_127 xw_652 ⟨rfl, by decide, by decide, by decide +kernel⟩⟩, ⟨TX12, 25, rfl⟩, by decide +kernel, rfl⟩
theorem xcv_13_44_10_r : xCvR .invokevirtual 13 44 10 m_X11_fault := ⟨⟨0, rfl, xr_V xw_657 xw_658 xw_659 xw_124 xw_656 ⟨rfl, by decide, by decide, by decide +kernel⟩⟩, ⟨TX11, 11, rfl⟩, by decide +kernel, rfl⟩
theorem xcv_13_47_11_r : xCvR .invokevirtual 13 47 11 m_X12_fault := ⟨⟨0, rfl, xr_V xw_661 xw_662 xw_663 xw_127 xw_660 ⟨rfl, by decide, by decide, by decide +kernel⟩⟩, ⟨TX12, 25, rfl⟩, by decide +kernel, rfl⟩
theorem xcv_13_48_10_r : xCvR .invokevirtual 13 48 10 m_X11_hours := ⟨⟨1, rfl, xr_V xw_665 xw_666 xw_667 xw_124 xw_664 ⟨rfl, by decide, by decide, by decide +kernel⟩⟩, ⟨TX11, 11, rfl⟩, by decide +kernel, rfl⟩
theorem xcv_13_51_11_r : xCvR .invokevirtual 13 51 11 m_X12_hours := ⟨⟨1, rfl, xr_V xw_669 xw_670 xw_671 xw_127 xw_668 ⟨rfl, by decide, by decide, by decide +kernel⟩⟩, ⟨TX12, 25, rfl⟩, by decide +kernel, rfl⟩
theorem xcv_13_52_10_r : xCvR .invokevirtual 13 52 10 m_X11_take := ⟨⟨2, rfl, xr_V xw_673 xw_674 xw_675 xw_124 xw_672 ⟨rfl, by decide, by decide, by decide +kernel⟩⟩, ⟨TX11, 11, rfl⟩, by decide +kernel, rfl⟩
theorem xcv_13_56_11_r : xCvR .invokevirtual 13 56 11 m_X12_take := ⟨⟨2, rfl, xr_V xw_677 xw_678 xw_679 xw_127 xw_676 ⟨rfl, by decide, by decide, by decide +kernel⟩⟩, ⟨TX12, 25, rfl⟩, by decide +kernel, rfl⟩
theorem xcv_13_57_10_r : xCvR .invokevirtual 13 57 10 m_X11_change := ⟨⟨2, rfl, xr_V xw_681 xw_682 xw_683 xw_124 xw_680 ⟨rfl, by decide, by decide, by decide +kernel⟩⟩, ⟨TX11, 11, rfl⟩, by decide +kernel, rfl⟩
theorem xcv_13_60_11_r : xCvR .invokevirtual 13 60 11 m_X12_change := ⟨⟨2, rfl, xr_V xw_685 xw_686 xw_687 xw_127 xw_684 ⟨rfl, by decide, by decide, by decide +kernel⟩⟩, ⟨TX12, 25, rfl⟩, by decide +kernel, rfl⟩
theorem xcv_13_61_10_r : xCvR .invokevirtual 13 61 10 m_X11_dusts := ⟨⟨1, rfl, xr_V xw_689 xw_690 xw_691 xw_124 xw_688 ⟨rfl, by decide, by decide, by decide +kernel⟩⟩, ⟨TX11, 11, rfl⟩, by decide +kernel, rfl⟩
theorem xcv_13_64_11_r : xCvR .invokevirtual 13 64 11 m_X12_dusts := ⟨⟨1, rfl, xr_V xw_693 xw_694 xw_695 xw_127 xw_692 ⟨rfl, by decide, by decide, by decide +kernel⟩⟩, ⟨TX12, 25, rfl⟩, by decide +kernel, rfl⟩
theorem xcv_13_65_10_r : xCvR .invokevirtual 13 65 10 m_X11_undo := ⟨⟨0, rfl, xr_V xw_697 xw_698 xw_699 xw_124 xw_696 ⟨rfl, by decide, by decide, by decide +kernel⟩⟩, ⟨TX11, 11, rfl⟩, by decide +kernel, rfl⟩
theorem xcv_13_68_11_r : xCvR .invokevirtual 13 68 11 m_X12_undo := ⟨⟨0, rfl, xr_V xw_701 xw_702 xw_703 xw_127 xw_700 ⟨rfl, by decide, by decide, by decide +kernel⟩⟩, ⟨TX12, 25, rfl⟩, by decide +kernel, rfl⟩
theorem xcv_13_69_10_r : xCvR .invokevirtual 13 69 10 m_X11_spot := ⟨⟨2, rfl, xr_V xw_705 xw_706 xw_707 xw_124 xw_704 ⟨rfl, by decide, by decide, by decide +kernel⟩⟩, ⟨TX11, 11, rfl⟩, by decide +kernel, rfl⟩
theorem xcv_13_72_11_r : xCvR .invokevirtual 13 72 11 m_X12_spot := ⟨⟨2, rfl, xr_V xw_709 xw_710 xw_711 xw_127 xw_708 ⟨rfl, by decide, by decide, by decide +kernel⟩⟩, ⟨TX12, 25, rfl⟩, by decide +kernel, rfl⟩
theorem xcv_13_73_10_r : xCvR .invokevirtual 13 73 10 m_X11_fall := ⟨⟨3, rfl, xr_V xw_713 xw_714 xw_715 xw_124 xw_712 ⟨rfl, by decide, by decide, by decide +kernel⟩⟩, ⟨TX11, 11, rfl⟩, by decide +kernel, rfl⟩
theorem xcv_13_76_11_r : xCvR .invokevirtual 13 76 11 m_X12_fall := ⟨⟨3, rfl, xr_V xw_717 xw_718 xw_719 xw_127 xw_716 ⟨rfl, by decide, by decide, by decide +kernel⟩⟩, ⟨TX12, 25, rfl⟩, by decide +kernel, rfl⟩
theorem xcv_13_77_10_r : xCvR .invokevirtual 13 77 10 m_X11_ahead := ⟨⟨3, rfl, xr_V xw_721 xw_722 xw_723 xw_124 xw_720 ⟨rfl, by decide, by decide, by decide +kernel⟩⟩, ⟨TX11, 11, rfl⟩, by decide +kernel, rfl⟩
theorem xcv_13_80_11_r : xCvR .invokevirtual 13 80 11 m_X12_ahead := ⟨⟨3, rfl, xr_V xw_725 xw_726 xw_727 xw_127 xw_724 ⟨rfl, by decide, by decide, by decide +kernel⟩⟩, ⟨TX12, 25, rfl⟩, by decide +kernel, rfl⟩
theorem xcv_13_81_10_r : xCvR .invokevirtual 13 81 10 m_X11_when := ⟨⟨3, rfl, xr_V xw_729 xw_730 xw_731 xw_124 xw_728 ⟨rfl, by decide, by decide, by decide +kernel⟩⟩, ⟨TX11, 11, rfl⟩, by decide +kernel, rfl⟩
theorem xcv_13_84_11_r : xCvR .invokevirtual 13 84 11 m_X12_when := ⟨⟨3, rfl, xr_V xw_733 xw_734 xw_735 xw_127 xw_732 ⟨rfl, by decide, by decide, by decide +kernel⟩⟩, ⟨TX12, 25, rfl⟩, by decide +kernel, rfl⟩
theorem xcv_13_85_10_r : xCvR .invokevirtual 13 85 10 m_X11_who := ⟨⟨3, rfl, xr_V xw_737 xw_738 xw_739 xw_124 xw_736 ⟨rfl, by decide, by decide, by decide +kernel⟩⟩, ⟨TX11, 11, rfl⟩, by decide +kernel, rfl⟩
theorem xcv_13_88_11_r : xCvR .invokevirtual 13 88 11 m_X12_who := ⟨⟨3, rfl, xr_V xw_741 xw_742 xw_743 xw_127 xw_740 ⟨rfl, by decide, by decide, by decide +kernel⟩⟩, ⟨TX12, 25, rfl⟩, by decide +kernel, rfl⟩
theorem xcv_13_89_10_r : xCvR .invokevirtual 13 89 10 m_X11_oneHand := ⟨⟨1, rfl, xr_V xw_745 xw_746 xw_747 xw_124 xw_744 ⟨rfl, by decide, by decide, by decide +kernel⟩⟩, ⟨TX11, 11, rfl⟩, by decide +kernel, rfl⟩
theorem xcv_13_92_11_r : xCvR .invokevirtual 13 92 11 m_X12_oneHand := ⟨⟨1, rfl, xr_V xw_749 xw_750 xw_751 xw_127 xw_748 ⟨rfl, by decide, by decide, by decide +kernel⟩⟩, ⟨TX12, 25, rfl⟩, by decide +kernel, rfl⟩
theorem xcv_13_93_10_r : xCvR .invokevirtual 13 93 10 m_X11_moved := ⟨⟨0, rfl, xr_V xw_753 xw_754 xw_755 xw_124 xw_752 ⟨rfl, by decide, by decide, by decide +kernel⟩⟩, ⟨TX11, 11, rfl⟩, by decide +kernel, rfl⟩
theorem xcv_13_96_11_r : xCvR .invokevirtual 13 96 11 m_X12_moved := ⟨⟨0, rfl, xr_V xw_757 xw_758 xw_759 xw_127 xw_756 ⟨rfl, by decide, by decide, by decide +kernel⟩⟩, ⟨TX12, 25, rfl⟩, by decide +kernel, rfl⟩
theorem xcv_13_97_10_r : xCvR .invokevirtual 13 97 10 m_X11_like := ⟨⟨2, rfl, xr_V xw_761 xw_762 xw_763 xw_124 xw_760 ⟨rfl, by decide, by decide, by decide +kernel⟩⟩, ⟨TX11, 11, rfl⟩, by decide +kernel, rfl⟩
theorem xcv_13_100_11_r : xCvR .invokevirtual 13 100 11 m_X12_like := ⟨⟨2, rfl, xr_V xw_765 xw_766 xw_767 xw_127 xw_764 ⟨rfl, by decide, by decide, by decide +kernel⟩⟩, ⟨TX12, 25, rfl⟩, by decide +kernel, rfl⟩
theorem xcv_13_101_10_r : xCvR .invokevirtual 13 101 10 m_X11_hide := ⟨⟨1, rfl, xr_V xw_769 xw_770 xw_771 xw_124 xw_768 ⟨rfl, by decide, by decide, by decide +kernel⟩⟩, ⟨TX11, 11, rfl⟩, by decide +kernel, rfl⟩
theorem xcv_13_104_11_r : xCvR .invokevirtual 13 104 11 m_X12_hide := ⟨⟨1, rfl, xr_V xw_773 xw_774 xw_775 xw_127 xw_772 ⟨rfl, by decide, by decide, by decide +kernel⟩⟩, ⟨TX12, 25, rfl⟩, by decide +kernel, rfl⟩
theorem xcv_13_105_10_r : xCvR .invokevirtual 13 105 10 m_X11_learnt := ⟨⟨4, rfl, xr_V xw_777 xw_778 xw_779 xw_124 xw_776 ⟨rfl, by decide, by decide, by decide +kernel⟩⟩, ⟨TX11, 11, rfl⟩, by decide +kernel, rfl⟩
theorem xcv_13_109_11_r : xCvR .invokevirtual 13 109 11 m_X12_learnt := ⟨⟨4, rfl, xr_V xw_781 xw_782 xw_783 xw_127 xw_780 ⟨rfl, by decide, by decide, by decide +kernel⟩⟩, ⟨TX12, 25, rfl⟩, by decide +kernel, rfl⟩
theorem xcv_13_110_10_r : xCvR .invokevirtual 13 110 10 m_X11_image := ⟨⟨1, rfl, xr_V xw_785 xw_786 xw_787 xw_124 xw_784 ⟨rfl, by decide, by decide, by decide +kernel⟩⟩, ⟨TX11, 11, rfl⟩, by decide +kernel, rfl⟩
theorem xcv_13_113_11_r : xCvR .invokevirtual 13 113 11 m_X12_image := ⟨⟨1, rfl, xr_V xw_789 xw_790 xw_791 xw_127 xw_788 ⟨rfl, by decide, by decide, by decide +kernel⟩⟩, ⟨TX12, 25, rfl⟩, by decide +kernel, rfl⟩
theorem xcv_13_114_10_r : xCvR .invokevirtual 13 114 10 m_X11_restore := ⟨⟨1, rfl, xr_V xw_793 xw_794 xw_795 xw_124 xw_792 ⟨rfl, by decide, by decide, by decide +kernel⟩⟩, ⟨TX11, 11, rfl⟩, by decide +kernel, rfl⟩
theorem xcv_13_117_11_r : xCvR .invokevirtual 13 117 11 m_X12_restore := ⟨⟨1, rfl, xr_V xw_797 xw_798 xw_799 xw_127 xw_796 ⟨rfl, by decide, by decide, by decide +kernel⟩⟩, ⟨TX12, 25, rfl⟩, by decide +kernel, rfl⟩
theorem xcv_13_118_10_r : xCvR .invokevirtual 13 118 10 m_X11_kind := ⟨⟨1, rfl, xr_V xw_801 xw_802 xw_803 xw_124 xw_800 ⟨rfl, by decide, by decide, by decide +kernel⟩⟩, ⟨TX11, 11, rfl⟩, by decide +kernel, rfl⟩
theorem xcv_13_121_11_r : xCvR .invokevirtual 13 121 11 m_X12_kind := ⟨⟨1, rfl, xr_V xw_805 xw_806 xw_807 xw_127 xw_804 ⟨rfl, by decide, by decide, by decide +kernel⟩⟩, ⟨TX12, 25, rfl⟩, by decide +kernel, rfl⟩
theorem xcv_13_122_10_r : xCvR .invokevirtual 13 122 10 m_X11_as := ⟨⟨2, rfl, xr_V xw_809 xw_810 xw_811 xw_124 xw_808 ⟨rfl, by decide, by decide, by decide +kernel⟩⟩, ⟨TX11, 11, rfl⟩, by decide +kernel, rfl⟩
theorem xcv_13_125_11_r : xCvR .invokevirtual 13 125 11 m_X12_as := ⟨⟨2, rfl, xr_V xw_813 xw_814 xw_815 xw_127 xw_812 ⟨rfl, by decide, by decide, by decide +kernel⟩⟩, ⟨TX12, 25, rfl⟩, by decide +kernel, rfl⟩
theorem xcv_13_126_10_r : xCvR .invokevirtual 13 126 10 m_X11_ask := ⟨⟨2, rfl, xr_V xw_817 xw_818 xw_819 xw_124 xw_816 ⟨rfl, by decide, by decide, by decide +kernel⟩⟩, ⟨TX11, 11, rfl⟩, by decide +kernel, rfl⟩
theorem xcv_13_129_11_r : xCvR .invokevirtual 13 129 11 m_X12_ask := ⟨⟨2, rfl, xr_V xw_821 xw_822 xw_823 xw_127 xw_820 ⟨rfl, by decide, by decide, by decide +kernel⟩⟩, ⟨TX12, 25, rfl⟩, by decide +kernel, rfl⟩
theorem xcv_13_130_10_r : xCvR .invokevirtual 13 130 10 m_X11_trace := ⟨⟨1, rfl, xr_V xw_825 xw_826 xw_827 xw_124 xw_824 ⟨rfl, by decide, by decide, by decide +kernel⟩⟩, ⟨TX11, 11, rfl⟩, by decide +kernel, rfl⟩
theorem xcv_13_133_11_r : xCvR .invokevirtual 13 133 11 m_X12_trace := ⟨⟨1, rfl, xr_V xw_829 xw_830 xw_831 xw_127 xw_828 ⟨rfl, by decide, by decide, by decide +kernel⟩⟩, ⟨TX12, 25, rfl⟩, by decide +kernel, rfl⟩
theorem xcv_13_134_10_r : xCvR .invokevirtual 13 134 10 m_X11_count := ⟨⟨1, rfl, xr_V xw_833 xw_834 xw_835 xw_124 xw_832 ⟨rfl, by decide, by decide, by decide +kernel⟩⟩, ⟨TX11, 11, rfl⟩, by decide +kernel, rfl⟩
theorem xcv_13_137_11_r : xCvR .invokevirtual 13 137 11 m_X12_count := ⟨⟨1, rfl, xr_V xw_837 xw_838 xw_839 xw_127 xw_836 ⟨rfl, by decide, by decide, by decide +kernel⟩⟩, ⟨TX12, 25, rfl⟩, by decide +kernel, rfl⟩
theorem xcv_13_138_10_r : xCvR .invokevirtual 13 138 10 m_X11_status := ⟨⟨0, rfl, xr_V xw_841 xw_842 xw_843 xw_124 xw_840 ⟨rfl, by decide, by decide, by decide +kernel⟩⟩, ⟨TX11, 11, rfl⟩, by decide +kernel, rfl⟩
theorem xcv_13_141_11_r : xCvR .invokevirtual 13 141 11 m_X12_status := ⟨⟨0, rfl, xr_V xw_845 xw_846 xw_847 xw_127 xw_844 ⟨rfl, by decide, by decide, by decide +kernel⟩⟩, ⟨TX12, 25, rfl⟩, by decide +kernel, rfl⟩
theorem xcv_0_ok : ∀ (k ci : Nat) (r : xMd), xcv_0 k ci = some r → xCvR .invokevirtual 0 k ci r := by
  intro k ci r h
  unfold xcv_0 at h
  split at h
  · split at h
    · cases h; exact xcv_0_7_8_r
    · cases h
  · split at h
    · cases h; exact xcv_0_20_0_r
    · cases h; exact xcv_0_20_1_r
    · cases h
  · cases h
theorem xcv_1_ok : ∀ (k ci : Nat) (r : xMd), xcv_1 k ci = some r → xCvR .invokevirtual 1 k ci r := by
  intro k ci r h
  unfold xcv_1 at h
  split at h
  · split at h
    · cases h; exact xcv_1_7_8_r
    · cases h
  · cases h
theorem xcv_2_ok : ∀ (k ci : Nat) (r : xMd), xcv_2 k ci = some r → xCvR .invokevirtual 2 k ci r := by
  intro k ci r h
  unfold xcv_2 at h
  split at h
  · split at h
    · cases h; exact xcv_2_9_8_r
    · cases h
  · cases h
theorem xcv_3_ok : ∀ (k ci : Nat) (r : xMd), xcv_3 k ci = some r → xCvR .invokevirtual 3 k ci r := by
  intro k ci r h
  unfold xcv_3 at h
  split at h
  · split at h
    · cases h; exact xcv_3_46_3_r
    · cases h
  · split at h
    · cases h; exact xcv_3_49_3_r
    · cases h
  · split at h
    · cases h; exact xcv_3_51_3_r
    · cases h
  · split at h
    · cases h; exact xcv_3_58_3_r
    · cases h
  · split at h
    · cases h; exact xcv_3_62_3_r
    · cases h
  · split at h
    · cases h; exact xcv_3_66_3_r
    · cases h
  · split at h
    · cases h; exact xcv_3_75_3_r
    · cases h
  · split at h
    · cases h; exact xcv_3_79_3_r
    · cases h
  · split at h
    · cases h; exact xcv_3_85_3_r
    · cases h
  · split at h
    · cases h; exact xcv_3_89_0_r
    · cases h; exact xcv_3_89_1_r
    · cases h; exact xcv_3_89_2_r
    · cases h; exact xcv_3_89_4_r
    · cases h; exact xcv_3_89_9_r
    · cases h
  · split at h
    · cases h; exact xcv_3_97_0_r
    · cases h; exact xcv_3_97_1_r
    · cases h; exact xcv_3_97_2_r
    · cases h; exact xcv_3_97_4_r
    · cases h; exact xcv_3_97_9_r
    · cases h
  · split at h
    · cases h; exact xcv_3_101_3_r
    · cases h
  · split at h
    · cases h; exact xcv_3_104_3_r
    · cases h
  · split at h
    · cases h; exact xcv_3_107_3_r
    · cases h
  · split at h
    · cases h; exact xcv_3_110_5_r
    · cases h
  · cases h
theorem xcv_4_ok : ∀ (k ci : Nat) (r : xMd), xcv_4 k ci = some r → xCvR .invokevirtual 4 k ci r := by
  intro k ci r h
  unfold xcv_4 at h
  split at h
  · split at h
    · cases h; exact xcv_4_7_8_r
    · cases h
  · split at h
    · cases h; exact xcv_4_17_2_r
    · cases h; exact xcv_4_17_4_r
    · cases h; exact xcv_4_17_9_r
    · cases h
  · cases h
theorem xcv_5_ok : ∀ (k ci : Nat) (r : xMd), xcv_5 k ci = some r → xCvR .invokevirtual 5 k ci r := by
  intro k ci r h
  unfold xcv_5 at h
  split at h
  · split at h
    · cases h; exact xcv_5_16_8_r
    · cases h
  · cases h
theorem xcv_7_ok : ∀ (k ci : Nat) (r : xMd), xcv_7 k ci = some r → xCvR .invokevirtual 7 k ci r := by
  intro k ci r h
  unfold xcv_7 at h
  split at h
  · split at h
    · cases h; exact xcv_7_41_6_r
    · cases h
  · split at h
    · cases h; exact xcv_7_44_6_r
    · cases h
  · split at h
    · cases h; exact xcv_7_47_6_r
    · cases h
  · split at h
    · cases h; exact xcv_7_53_6_r
    · cases h
  · split at h
    · cases h; exact xcv_7_62_6_r
    · cases h
  · split at h
    · cases h; exact xcv_7_66_6_r
    · cases h
  · split at h
    · cases h; exact xcv_7_69_6_r
    · cases h
  · split at h
    · cases h; exact xcv_7_73_6_r
    · cases h
  · split at h
    · cases h; exact xcv_7_76_6_r
    · cases h
  · split at h
    · cases h; exact xcv_7_83_5_r
    · cases h
  · split at h
    · cases h; exact xcv_7_99_6_r
    · cases h
  · split at h
    · cases h; exact xcv_7_102_5_r
    · cases h
  · split at h
    · cases h; exact xcv_7_106_6_r
    · cases h
  · split at h
    · cases h; exact xcv_7_156_6_r
    · cases h
  · cases h
theorem xcv_8_ok : ∀ (k ci : Nat) (r : xMd), xcv_8 k ci = some r → xCvR .invokevirtual 8 k ci r := by
  intro k ci r h
  unfold xcv_8 at h
  split at h
  · split at h
    · cases h; exact xcv_8_29_7_r
    · cases h
  · split at h
    · cases h; exact xcv_8_33_7_r
    · cases h
  · cases h
theorem xcv_10_ok : ∀ (k ci : Nat) (r : xMd), xcv_10 k ci = some r → xCvR .invokevirtual 10 k ci r := by
  intro k ci r h
  unfold xcv_10 at h
  split at h
  · split at h
    · cases h; exact xcv_10_9_8_r
    · cases h
  · cases h
theorem xcv_11_ok : ∀ (k ci : Nat) (r : xMd), xcv_11 k ci = some r → xCvR .invokevirtual 11 k ci r := by
  intro k ci r h
  unfold xcv_11 at h
  split at h
  · split at h
    · cases h; exact xcv_11_43_7_r
    · cases h
  · split at h
    · cases h; exact xcv_11_53_7_r
    · cases h
  · split at h
    · cases h; exact xcv_11_57_7_r
    · cases h
  · split at h
    · cases h; exact xcv_11_61_7_r
    · cases h
  · split at h
    · cases h; exact xcv_11_64_7_r
    · cases h
  · split at h
    · cases h; exact xcv_11_68_7_r
    · cases h
  · split at h
    · cases h; exact xcv_11_72_7_r
    · cases h
  · split at h
    · cases h; exact xcv_11_75_7_r
    · cases h
  · split at h
    · cases h; exact xcv_11_88_6_r
    · cases h
  · split at h
    · cases h; exact xcv_11_105_10_r
    · cases h
  · split at h
    · cases h; exact xcv_11_108_3_r
    · cases h
  · split at h
    · cases h; exact xcv_11_112_3_r
    · cases h
  · split at h
    · cases h; exact xcv_11_119_10_r
    · cases h
  · split at h
    · cases h; exact xcv_11_122_3_r
    · cases h
  · split at h
    · cases h; exact xcv_11_125_3_r
    · cases h
  · split at h
    · cases h; exact xcv_11_128_3_r
    · cases h
  · split at h
    · cases h; exact xcv_11_135_3_r
    · cases h
  · split at h
    · cases h; exact xcv_11_138_3_r
    · cases h
  · split at h
    · cases h; exact xcv_11_145_3_r
    · cases h
  · split at h
    · cases h; exact xcv_11_158_3_r
    · cases h
  · split at h
    · cases h; exact xcv_11_162_3_r
    · cases h
  · split at h
    · cases h; exact xcv_11_180_0_r
    · cases h; exact xcv_11_180_1_r
    · cases h; exact xcv_11_180_2_r
    · cases h; exact xcv_11_180_4_r
    · cases h; exact xcv_11_180_9_r
    · cases h
  · split at h
    · cases h; exact xcv_11_184_0_r
    · cases h; exact xcv_11_184_1_r
    · cases h; exact xcv_11_184_2_r
    · cases h; exact xcv_11_184_4_r
    · cases h; exact xcv_11_184_9_r
    · cases h
  · split at h
    · cases h; exact xcv_11_187_3_r
    · cases h
  · split at h
    · cases h; exact xcv_11_190_3_r
    · cases h
  · split at h
    · cases h; exact xcv_11_193_10_r
    · cases h
  · split at h
    · cases h; exact xcv_11_196_3_r
    · cases h
  · split at h
    · cases h; exact xcv_11_199_3_r
    · cases h
  · split at h
    · cases h; exact xcv_11_202_3_r
    · cases h
  · split at h
    · cases h; exact xcv_11_206_3_r
    · cases h
  · split at h
    · cases h; exact xcv_11_210_3_r
    · cases h
  · split at h
    · cases h; exact xcv_11_213_3_r
    · cases h
  · split at h
    · cases h; exact xcv_11_221_3_r
    · cases h
  · split at h
    · cases h; exact xcv_11_224_10_r
    · cases h
  · split at h
    · cases h; exact xcv_11_228_0_r
    · cases h; exact xcv_11_228_1_r
    · cases h; exact xcv_11_228_2_r
    · cases h; exact xcv_11_228_4_r
    · cases h; exact xcv_11_228_9_r
    · cases h
  · split at h
    · cases h; exact xcv_11_238_8_r
    · cases h
  · split at h
    · cases h; exact xcv_11_241_0_r
    · cases h; exact xcv_11_241_1_r
    · cases h; exact xcv_11_241_2_r
    · cases h; exact xcv_11_241_4_r
    · cases h; exact xcv_11_241_9_r
    · cases h
  · split at h
    · cases h; exact xcv_11_245_0_r
    · cases h; exact xcv_11_245_1_r
    · cases h; exact xcv_11_245_2_r
    · cases h; exact xcv_11_245_4_r
    · cases h; exact xcv_11_245_9_r
    · cases h
  · split at h
    · cases h; exact xcv_11_248_8_r
    · cases h
  · split at h
    · cases h; exact xcv_11_251_7_r
    · cases h
  · split at h
    · cases h; exact xcv_11_254_3_r
    · cases h
  · split at h
    · cases h; exact xcv_11_257_3_r
    · cases h
  · split at h
    · cases h; exact xcv_11_263_7_r
    · cases h
  · cases h
theorem xcv_12_ok : ∀ (k ci : Nat) (r : xMd), xcv_12 k ci = some r → xCvR .invokevirtual 12 k ci r := by
  intro k ci r h
  unfold xcv_12 at h
  split at h
  · split at h
    · cases h; exact xcv_12_56_11_r
    · cases h
  · split at h
    · cases h; exact xcv_12_60_11_r
    · cases h
  · split at h
    · cases h; exact xcv_12_63_11_r
    · cases h
  · split at h
    · cases h; exact xcv_12_75_11_r
    · cases h
  · split at h
    · cases h; exact xcv_12_94_11_r
    · cases h
  · split at h
    · cases h; exact xcv_12_97_11_r
    · cases h
  · split at h
    · cases h; exact xcv_12_101_11_r
    · cases h
  · split at h
    · cases h; exact xcv_12_106_11_r
    · cases h
  · split at h
    · cases h; exact xcv_12_120_11_r
    · cases h
  · split at h
    · cases h; exact xcv_12_124_11_r
    · cases h
  · split at h
    · cases h; exact xcv_12_128_11_r
    · cases h
  · split at h
    · cases h; exact xcv_12_131_11_r
    · cases h
  · split at h
    · cases h; exact xcv_12_136_11_r
    · cases h
  · split at h
    · cases h; exact xcv_12_146_11_r
    · cases h
  · split at h
    · cases h; exact xcv_12_149_11_r
    · cases h
  · split at h
    · cases h; exact xcv_12_154_11_r
    · cases h
  · split at h
    · cases h; exact xcv_12_157_11_r
    · cases h
  · split at h
    · cases h; exact xcv_12_164_11_r
    · cases h
  · split at h
    · cases h; exact xcv_12_167_11_r
    · cases h
  · split at h
    · cases h; exact xcv_12_170_11_r
    · cases h
  · split at h
    · cases h; exact xcv_12_183_11_r
    · cases h
  · split at h
    · cases h; exact xcv_12_193_11_r
    · cases h
  · split at h
    · cases h; exact xcv_12_196_11_r
    · cases h
  · split at h
    · cases h; exact xcv_12_203_11_r
    · cases h
  · split at h
    · cases h; exact xcv_12_212_11_r
    · cases h
  · split at h
    · cases h; exact xcv_12_216_11_r
    · cases h
  · split at h
    · cases h; exact xcv_12_219_11_r
    · cases h
  · split at h
    · cases h; exact xcv_12_222_11_r
    · cases h
  · split at h
    · cases h; exact xcv_12_225_11_r
    · cases h
  · split at h
    · cases h; exact xcv_12_228_11_r
    · cases h
  · split at h
    · cases h; exact xcv_12_231_11_r
    · cases h
  · split at h
    · cases h; exact xcv_12_234_11_r
    · cases h
  · split at h
    · cases h; exact xcv_12_237_11_r
    · cases h
  · split at h
    · cases h; exact xcv_12_240_11_r
    · cases h
  · split at h
    · cases h; exact xcv_12_243_11_r
    · cases h
  · cases h
theorem xcv_13_ok : ∀ (k ci : Nat) (r : xMd), xcv_13 k ci = some r → xCvR .invokevirtual 13 k ci r := by
  intro k ci r h
  unfold xcv_13 at h
  split at h
  · split at h
    · cases h; exact xcv_13_13_10_r
    · cases h
  · split at h
    · cases h; exact xcv_13_17_11_r
    · cases h
  · split at h
    · cases h; exact xcv_13_18_10_r
    · cases h
  · split at h
    · cases h; exact xcv_13_21_11_r
    · cases h
  · split at h
    · cases h; exact xcv_13_22_10_r
    · cases h
  · split at h
    · cases h; exact xcv_13_26_11_r
    · cases h
  · split at h
    · cases h; exact xcv_13_27_10_r
    · cases h
  · split at h
    · cases h; exact xcv_13_31_11_r
    · cases h
  · split at h
    · cases h; exact xcv_13_34_10_r
    · cases h
  · split at h
    · cases h; exact xcv_13_38_11_r
    · cases h
  · split at h
    · cases h; exact xcv_13_39_10_r
    · cases h
  · split at h
    · cases h; exact xcv_13_43_11_r
    · cases h
  · split at h
    · cases h; exact xcv_13_44_10_r
    · cases h
  · split at h
    · cases h; exact xcv_13_47_11_r
    · cases h
  · split at h
    · cases h; exact xcv_13_48_10_r
    · cases h
  · split at h
    · cases h; exact xcv_13_51_11_r
    · cases h
  · split at h
    · cases h; exact xcv_13_52_10_r
    · cases h
  · split at h
    · cases h; exact xcv_13_56_11_r
    · cases h
  · split at h
    · cases h; exact xcv_13_57_10_r
    · cases h
  · split at h
    · cases h; exact xcv_13_60_11_r
    · cases h
  · split at h
    · cases h; exact xcv_13_61_10_r
    · cases h
  · split at h
    · cases h; exact xcv_13_64_11_r
    · cases h
  · split at h
    · cases h; exact xcv_13_65_10_r
    · cases h
  · split at h
    · cases h; exact xcv_13_68_11_r
    · cases h
  · split at h
    · cases h; exact xcv_13_69_10_r
    · cases h
  · split at h
    · cases h; exact xcv_13_72_11_r
    · cases h
  · split at h
    · cases h; exact xcv_13_73_10_r
    · cases h
  · split at h
    · cases h; exact xcv_13_76_11_r
    · cases h
  · split at h
    · cases h; exact xcv_13_77_10_r
    · cases h
  · split at h
    · cases h; exact xcv_13_80_11_r
    · cases h
  · split at h
    · cases h; exact xcv_13_81_10_r
    · cases h
  · split at h
    · cases h; exact xcv_13_84_11_r
    · cases h
  · split at h
    · cases h; exact xcv_13_85_10_r
    · cases h
  · split at h
    · cases h; exact xcv_13_88_11_r
    · cases h
  · split at h
    · cases h; exact xcv_13_89_10_r
    · cases h
  · split at h
    · cases h; exact xcv_13_92_11_r
    · cases h
  · split at h
    · cases h; exact xcv_13_93_10_r
    · cases h
  · split at h
    · cases h; exact xcv_13_96_11_r
    · cases h
  · split at h
    · cases h; exact xcv_13_97_10_r
    · cases h
  · split at h
    · cases h; exact xcv_13_100_11_r
    · cases h
  · split at h
    · cases h; exact xcv_13_101_10_r
    · cases h
  · split at h
    · cases h; exact xcv_13_104_11_r
    · cases h
  · split at h
    · cases h; exact xcv_13_105_10_r
    · cases h
  · split at h
    · cases h; exact xcv_13_109_11_r
    · cases h
  · split at h
    · cases h; exact xcv_13_110_10_r
    · cases h
  · split at h
    · cases h; exact xcv_13_113_11_r
    · cases h
  · split at h
    · cases h; exact xcv_13_114_10_r
    · cases h
  · split at h
    · cases h; exact xcv_13_117_11_r
    · cases h
  · split at h
    · cases h; exact xcv_13_118_10_r
    · cases h
  · split at h
    · cases h; exact xcv_13_121_11_r
    · cases h
  · split at h
    · cases h; exact xcv_13_122_10_r
    · cases h
  · split at h
    · cases h; exact xcv_13_125_11_r
    · cases h
  · split at h
    · cases h; exact xcv_13_126_10_r
    · cases h
  · split at h
    · cases h; exact xcv_13_129_11_r
    · cases h
  · split at h
    · cases h; exact xcv_13_130_10_r
    · cases h
  · split at h
    · cases h; exact xcv_13_133_11_r
    · cases h
  · split at h
    · cases h; exact xcv_13_134_10_r
    · cases h
  · split at h
    · cases h; exact xcv_13_137_11_r
    · cases h
  · split at h
    · cases h; exact xcv_13_138_10_r
    · cases h
  · split at h
    · cases h; exact xcv_13_141_11_r
    · cases h
  · cases h
theorem xcv_ok : ∀ (o k ci : Nat) (r : xMd), xcv o k ci = some r → xCvR .invokevirtual o k ci r := by
  intro o k ci r h
  unfold xcv at h
  split at h
  · exact xcv_0_ok k ci r h
  · exact xcv_1_ok k ci r h
  · exact xcv_2_ok k ci r h
  · exact xcv_3_ok k ci r h
  · exact xcv_4_ok k ci r h
  · exact xcv_5_ok k ci r h
  · exact xcv_7_ok k ci r h
  · exact xcv_8_ok k ci r h
  · exact xcv_10_ok k ci r h
  · exact xcv_11_ok k ci r h
  · exact xcv_12_ok k ci r h
  · exact xcv_13_ok k ci r h
  · cases h
theorem xci_0_1_0_r : xCvR .invokespecial 0 1 0 m_X5_init := ⟨⟨2, rfl, xr_I xw_850 xw_849 xw_189 xw_848 rfl ⟨by decide, by decide, by decide +kernel⟩⟩, ⟨TX0, 2, rfl⟩, by decide +kernel, rfl⟩
theorem xci_0_1_1_r : xCvR .invokespecial 0 1 1 m_X5_init := ⟨⟨2, rfl, xr_I xw_850 xw_849 xw_189 xw_848 rfl ⟨by decide, by decide, by decide +kernel⟩⟩, ⟨TX1, 2, rfl⟩, by decide +kernel, rfl⟩
theorem xci_0_1_2_r : xCvR .invokespecial 0 1 2 m_X5_init := ⟨⟨2, rfl, xr_I xw_850 xw_849 xw_189 xw_848 rfl ⟨by decide, by decide, by decide +kernel⟩⟩, ⟨TX2, 2, rfl⟩, by decide +kernel, rfl⟩
theorem xci_0_1_4_r : xCvR .invokespecial 0 1 4 m_X5_init := ⟨⟨2, rfl, xr_I xw_850 xw_849 xw_189 xw_848 rfl ⟨by decide, by decide, by decide +kernel⟩⟩, ⟨TX4, 2, rfl⟩, by decide +kernel, rfl⟩
theorem xci_0_1_9_r : xCvR .invokespecial 0 1 9 m_X5_init := ⟨⟨2, rfl, xr_I xw_850 xw_849 xw_189 xw_848 rfl ⟨by decide, by decide, by decide +kernel⟩⟩, ⟨TX10, 2, rfl⟩, by decide +kernel, rfl⟩
theorem xci_0_13_0_r : xCvR .invokespecial 0 13 0 m_X5_askSize := ⟨⟨2, rfl, xr_SU xw_851 xw_429 xw_852 xw_430 xw_189 xw_431 ⟨by decide, by decide +kernel⟩⟩, ⟨TX0, 2, rfl⟩, by decide +kernel, rfl⟩
theorem xci_0_13_1_r : xCvR .invokespecial 0 13 1 m_X5_askSize := ⟨⟨2, rfl, xr_SU xw_851 xw_429 xw_852 xw_430 xw_189 xw_431 ⟨by decide, by decide +kernel⟩⟩, ⟨TX1, 2, rfl⟩, by decide +kernel, rfl⟩
theorem xci_0_17_0_r : xCvR .invokespecial 0 17 0 m_X5_askMark := ⟨⟨2, rfl, xr_SU xw_853 xw_444 xw_852 xw_445 xw_189 xw_446 ⟨by decide, by decide +kernel⟩⟩, ⟨TX0, 2, rfl⟩, by decide +kernel, rfl⟩
theorem xci_0_17_1_r : xCvR .invokespecial 0 17 1 m_X5_askMark := ⟨⟨2, rfl, xr_SU xw_853 xw_444 xw_852 xw_445 xw_189 xw_446 ⟨by decide, by decide +kernel⟩⟩, ⟨TX1, 2, rfl⟩, by decide +kernel, rfl⟩
theorem xci_1_1_0_r : xCvR .invokespecial 1 1 0 m_X0_init := ⟨⟨2, rfl, xr_I xw_856 xw_855 xw_118 xw_854 rfl ⟨by decide, by decide, by decide +kernel⟩⟩, ⟨TX0, 2, rfl⟩, by decide +kernel, rfl⟩
theorem xci_1_1_1_r : xCvR .invokespecial 1 1 1 m_X0_init := ⟨⟨2, rfl, xr_I xw_856 xw_855 xw_118 xw_854 rfl ⟨by decide, by decide, by decide +kernel⟩⟩, ⟨TX1, 2, rfl⟩, by decide +kernel, rfl⟩
theorem xci_1_13_1_r : xCvR .invokespecial 1 13 1 m_X0_askSize := ⟨⟨2, rfl, xr_SU xw_857 xw_146 xw_858 xw_141 xw_118 xw_139 ⟨by decide, by decide +kernel⟩⟩, ⟨TX1, 2, rfl⟩, by decide +kernel, rfl⟩
theorem xci_2_3_2_r : xCvR .invokespecial 2 3 2 m_X4_init := ⟨⟨2, rfl, xr_I xw_861 xw_860 xw_109 xw_859 rfl ⟨by decide, by decide, by decide +kernel⟩⟩, ⟨TX2, 2, rfl⟩, by decide +kernel, rfl⟩
theorem xci_2_3_4_r : xCvR .invokespecial 2 3 4 m_X4_init := ⟨⟨2, rfl, xr_I xw_861 xw_860 xw_109 xw_859 rfl ⟨by decide, by decide, by decide +kernel⟩⟩, ⟨TX4, 2, rfl⟩, by decide +kernel, rfl⟩
theorem xci_2_3_9_r : xCvR .invokespecial 2 3 9 m_X4_init := ⟨⟨2, rfl, xr_I xw_861 xw_860 xw_109 xw_859 rfl ⟨by decide, by decide, by decide +kernel⟩⟩, ⟨TX10, 2, rfl⟩, by decide +kernel, rfl⟩
theorem xci_2_15_2_r : xCvR .invokespecial 2 15 2 m_X4_askMark := ⟨⟨2, rfl, xr_SU xw_862 xw_236 xw_863 xw_231 xw_109 xw_229 ⟨by decide, by decide +kernel⟩⟩, ⟨TX2, 2, rfl⟩, by decide +kernel, rfl⟩
theorem xci_4_1_0_r : xCvR .invokespecial 4 1 0 m_X5_init := ⟨⟨2, rfl, xr_I xw_864 xw_849 xw_189 xw_848 rfl ⟨by decide, by decide, by decide +kernel⟩⟩, ⟨TX0, 2, rfl⟩, by decide +kernel, rfl⟩
theorem xci_4_1_1_r : xCvR .invokespecial 4 1 1 m_X5_init := ⟨⟨2, rfl, xr_I xw_864 xw_849 xw_189 xw_848 rfl ⟨by decide, by decide, by decide +kernel⟩⟩, ⟨TX1, 2, rfl⟩, by decide +kernel, rfl⟩
theorem xci_4_1_2_r : xCvR .invokespecial 4 1 2 m_X5_init := ⟨⟨2, rfl, xr_I xw_864 xw_849 xw_189 xw_848 rfl ⟨by decide, by decide, by decide +kernel⟩⟩, ⟨TX2, 2, rfl⟩, by decide +kernel, rfl⟩
theorem xci_4_1_4_r : xCvR .invokespecial 4 1 4 m_X5_init := ⟨⟨2, rfl, xr_I xw_864 xw_849 xw_189 xw_848 rfl ⟨by decide, by decide, by decide +kernel⟩⟩, ⟨TX4, 2, rfl⟩, by decide +kernel, rfl⟩
theorem xci_4_1_9_r : xCvR .invokespecial 4 1 9 m_X5_init := ⟨⟨2, rfl, xr_I xw_864 xw_849 xw_189 xw_848 rfl ⟨by decide, by decide, by decide +kernel⟩⟩, ⟨TX10, 2, rfl⟩, by decide +kernel, rfl⟩
theorem xci_4_13_2_r : xCvR .invokespecial 4 13 2 m_X5_askSize := ⟨⟨2, rfl, xr_SU xw_865 xw_429 xw_866 xw_430 xw_189 xw_431 ⟨by decide, by decide +kernel⟩⟩, ⟨TX2, 2, rfl⟩, by decide +kernel, rfl⟩
theorem xci_4_13_4_r : xCvR .invokespecial 4 13 4 m_X5_askSize := ⟨⟨2, rfl, xr_SU xw_865 xw_429 xw_866 xw_430 xw_189 xw_431 ⟨by decide, by decide +kernel⟩⟩, ⟨TX4, 2, rfl⟩, by decide +kernel, rfl⟩
theorem xci_4_13_9_r : xCvR .invokespecial 4 13 9 m_X5_askSize := ⟨⟨2, rfl, xr_SU xw_865 xw_429 xw_866 xw_430 xw_189 xw_431 ⟨by decide, by decide +kernel⟩⟩, ⟨TX10, 2, rfl⟩, by decide +kernel, rfl⟩
theorem xci_4_22_2_r : xCvR .invokespecial 4 22 2 m_X5_askMark := ⟨⟨2, rfl, xr_SU xw_867 xw_444 xw_866 xw_445 xw_189 xw_446 ⟨by decide, by decide +kernel⟩⟩, ⟨TX2, 2, rfl⟩, by decide +kernel, rfl⟩
theorem xci_4_22_4_r : xCvR .invokespecial 4 22 4 m_X5_askMark := ⟨⟨2, rfl, xr_SU xw_867 xw_444 xw_866 xw_445 xw_189 xw_446 ⟨by decide, by decide +kernel⟩⟩, ⟨TX4, 2, rfl⟩, by decide +kernel, rfl⟩
theorem xci_4_22_9_r : xCvR .invokespecial 4 22 9 m_X5_askMark := ⟨⟨2, rfl, xr_SU xw_867 xw_444 xw_866 xw_445 xw_189 xw_446 ⟨by decide, by decide +kernel⟩⟩, ⟨TX10, 2, rfl⟩, by decide +kernel, rfl⟩
theorem xci_7_27_5_r : xCvR .invokespecial 7 27 5 m_X6_init := ⟨⟨0, rfl, xr_IN (host := "DustReads") (by decide +kernel) xw_869 xw_105 xw_868 rfl ⟨by decide, by decide, by decide +kernel⟩⟩, ⟨TX6, 5, rfl⟩, by decide +kernel, rfl⟩
theorem xci_7_34_3_r : xCvR .invokespecial 7 34 3 m_X3_init := ⟨⟨1, rfl, xr_I xw_872 xw_871 xw_96 xw_870 rfl ⟨by decide, by decide, by decide +kernel⟩⟩, ⟨TX3, 6, rfl⟩, by decide +kernel, rfl⟩
theorem xci_7_121_2_r : xCvR .invokespecial 7 121 2 m_X4_init := ⟨⟨2, rfl, xr_I xw_873 xw_860 xw_109 xw_859 rfl ⟨by decide, by decide, by decide +kernel⟩⟩, ⟨TX2, 2, rfl⟩, by decide +kernel, rfl⟩
theorem xci_7_121_4_r : xCvR .invokespecial 7 121 4 m_X4_init := ⟨⟨2, rfl, xr_I xw_873 xw_860 xw_109 xw_859 rfl ⟨by decide, by decide, by decide +kernel⟩⟩, ⟨TX4, 2, rfl⟩, by decide +kernel, rfl⟩
theorem xci_7_121_9_r : xCvR .invokespecial 7 121 9 m_X4_init := ⟨⟨2, rfl, xr_I xw_873 xw_860 xw_109 xw_859 rfl ⟨by decide, by decide, by decide +kernel⟩⟩, ⟨TX10, 2, rfl⟩, by decide +kernel, rfl⟩
theorem xci_7_125_9_r : xCvR .invokespecial 7 125 9 m_X10_init := ⟨⟨2, rfl, xr_I xw_876 xw_875 xw_112 xw_874 rfl ⟨by decide, by decide, by decide +kernel⟩⟩, ⟨TX10, 2, rfl⟩, by decide +kernel, rfl⟩
theorem xci_7_128_2_r : xCvR .invokespecial 7 128 2 m_X2_init := ⟨⟨2, rfl, xr_I xw_879 xw_878 xw_115 xw_877 rfl ⟨by decide, by decide, by decide +kernel⟩⟩, ⟨TX2, 2, rfl⟩, by decide +kernel, rfl⟩
theorem xci_7_131_0_r : xCvR .invokespecial 7 131 0 m_X0_init := ⟨⟨2, rfl, xr_I xw_880 xw_855 xw_118 xw_854 rfl ⟨by decide, by decide, by decide +kernel⟩⟩, ⟨TX0, 2, rfl⟩, by decide +kernel, rfl⟩
theorem xci_7_131_1_r : xCvR .invokespecial 7 131 1 m_X0_init := ⟨⟨2, rfl, xr_I xw_880 xw_855 xw_118 xw_854 rfl ⟨by decide, by decide, by decide +kernel⟩⟩, ⟨TX1, 2, rfl⟩, by decide +kernel, rfl⟩
theorem xci_7_134_1_r : xCvR .invokespecial 7 134 1 m_X1_init := ⟨⟨2, rfl, xr_I xw_883 xw_882 xw_121 xw_881 rfl ⟨by decide, by decide, by decide +kernel⟩⟩, ⟨TX1, 2, rfl⟩, by decide +kernel, rfl⟩
theorem xci_10_3_2_r : xCvR .invokespecial 10 3 2 m_X4_init := ⟨⟨2, rfl, xr_I xw_884 xw_860 xw_109 xw_859 rfl ⟨by decide, by decide, by decide +kernel⟩⟩, ⟨TX2, 2, rfl⟩, by decide +kernel, rfl⟩
theorem xci_10_3_4_r : xCvR .invokespecial 10 3 4 m_X4_init := ⟨⟨2, rfl, xr_I xw_884 xw_860 xw_109 xw_859 rfl ⟨by decide, by decide, by decide +kernel⟩⟩, ⟨TX4, 2, rfl⟩, by decide +kernel, rfl⟩
theorem xci_10_3_9_r : xCvR .invokespecial 10 3 9 m_X4_init := ⟨⟨2, rfl, xr_I xw_884 xw_860 xw_109 xw_859 rfl ⟨by decide, by decide, by decide +kernel⟩⟩, ⟨TX10, 2, rfl⟩, by decide +kernel, rfl⟩
theorem xci_10_15_9_r : xCvR .invokespecial 10 15 9 m_X4_askSize := ⟨⟨2, rfl, xr_SU xw_885 xw_886 xw_887 xw_434 xw_109 xw_433 ⟨by decide, by decide +kernel⟩⟩, ⟨TX10, 2, rfl⟩, by decide +kernel, rfl⟩
theorem xci_10_19_9_r : xCvR .invokespecial 10 19 9 m_X4_askMark := ⟨⟨2, rfl, xr_SU xw_888 xw_236 xw_887 xw_231 xw_109 xw_229 ⟨by decide, by decide +kernel⟩⟩, ⟨TX10, 2, rfl⟩, by decide +kernel, rfl⟩
theorem xci_11_9_7_r : xCvR .invokespecial 11 9 7 m_X8_init := ⟨⟨0, rfl, xr_I xw_891 xw_890 xw_93 xw_889 rfl ⟨by decide, by decide, by decide +kernel⟩⟩, ⟨TX8, 3, rfl⟩, by decide +kernel, rfl⟩
theorem xci_11_22_3_r : xCvR .invokespecial 11 22 3 m_X3_init := ⟨⟨1, rfl, xr_I xw_892 xw_871 xw_96 xw_870 rfl ⟨by decide, by decide, by decide +kernel⟩⟩, ⟨TX3, 6, rfl⟩, by decide +kernel, rfl⟩
theorem xci_11_38_8_r : xCvR .invokespecial 11 38 8 m_X9_init := ⟨⟨0, rfl, xr_IN (host := "DustReads") (by decide +kernel) xw_894 xw_99 xw_893 rfl ⟨by decide, by decide, by decide +kernel⟩⟩, ⟨TX9, 2, rfl⟩, by decide +kernel, rfl⟩
theorem xci_11_85_6_r : xCvR .invokespecial 11 85 6 m_X7_init := ⟨⟨2, rfl, xr_I xw_897 xw_896 xw_102 xw_895 rfl ⟨by decide, by decide, by decide +kernel⟩⟩, ⟨TX7, 8, rfl⟩, by decide +kernel, rfl⟩
theorem xci_13_9_10_r : xCvR .invokespecial 13 9 10 m_X11_init := ⟨⟨0, rfl, xr_I xw_900 xw_899 xw_124 xw_898 rfl ⟨by decide, by decide, by decide +kernel⟩⟩, ⟨TX11, 11, rfl⟩, by decide +kernel, rfl⟩
theorem xci_13_12_11_r : xCvR .invokespecial 13 12 11 m_X12_init := ⟨⟨0, rfl, xr_I xw_903 xw_902 xw_127 xw_901 rfl ⟨by decide, by decide, by decide +kernel⟩⟩, ⟨TX12, 25, rfl⟩, by decide +kernel, rfl⟩
theorem xci_0_ok : ∀ (k ci : Nat) (r : xMd), xci_0 k ci = some r → xCvR .invokespecial 0 k ci r := by
  intro k ci r h
  unfold xci_0 at h
  split at h
  · split at h
    · cases h; exact xci_0_1_0_r
    · cases h; exact xci_0_1_1_r
    · cases h; exact xci_0_1_2_r
    · cases h; exact xci_0_1_4_r
    · cases h; exact xci_0_1_9_r
    · cases h
  · split at h
    · cases h; exact xci_0_13_0_r
    · cases h; exact xci_0_13_1_r
    · cases h
  · split at h
    · cases h; exact xci_0_17_0_r
    · cases h; exact xci_0_17_1_r
    · cases h
  · cases h
theorem xci_1_ok : ∀ (k ci : Nat) (r : xMd), xci_1 k ci = some r → xCvR .invokespecial 1 k ci r := by
  intro k ci r h
  unfold xci_1 at h
  split at h
  · split at h
    · cases h; exact xci_1_1_0_r
    · cases h; exact xci_1_1_1_r
    · cases h
  · split at h
    · cases h; exact xci_1_13_1_r
    · cases h
  · cases h
theorem xci_2_ok : ∀ (k ci : Nat) (r : xMd), xci_2 k ci = some r → xCvR .invokespecial 2 k ci r := by
  intro k ci r h
  unfold xci_2 at h
  split at h
  · split at h
    · cases h; exact xci_2_3_2_r
    · cases h; exact xci_2_3_4_r
    · cases h; exact xci_2_3_9_r
    · cases h
  · split at h
    · cases h; exact xci_2_15_2_r
    · cases h
  · cases h
theorem xci_4_ok : ∀ (k ci : Nat) (r : xMd), xci_4 k ci = some r → xCvR .invokespecial 4 k ci r := by
  intro k ci r h
  unfold xci_4 at h
  split at h
  · split at h
    · cases h; exact xci_4_1_0_r
    · cases h; exact xci_4_1_1_r
    · cases h; exact xci_4_1_2_r
    · cases h; exact xci_4_1_4_r
    · cases h; exact xci_4_1_9_r
    · cases h
  · split at h
    · cases h; exact xci_4_13_2_r
    · cases h; exact xci_4_13_4_r
    · cases h; exact xci_4_13_9_r
    · cases h
  · split at h
    · cases h; exact xci_4_22_2_r
    · cases h; exact xci_4_22_4_r
    · cases h; exact xci_4_22_9_r
    · cases h
  · cases h
theorem xci_7_ok : ∀ (k ci : Nat) (r : xMd), xci_7 k ci = some r → xCvR .invokespecial 7 k ci r := by
  intro k ci r h
  unfold xci_7 at h
  split at h
  · split at h
    · cases h; exact xci_7_27_5_r
    · cases h
  · split at h
    · cases h; exact xci_7_34_3_r
    · cases h
  · split at h
    · cases h; exact xci_7_121_2_r
    · cases h; exact xci_7_121_4_r
    · cases h; exact xci_7_121_9_r
    · cases h
  · split at h
    · cases h; exact xci_7_125_9_r
    · cases h
  · split at h
    · cases h; exact xci_7_128_2_r
    · cases h
  · split at h
    · cases h; exact xci_7_131_0_r
    · cases h; exact xci_7_131_1_r
    · cases h
  · split at h
    · cases h; exact xci_7_134_1_r
    · cases h
  · cases h
theorem xci_10_ok : ∀ (k ci : Nat) (r : xMd), xci_10 k ci = some r → xCvR .invokespecial 10 k ci r := by
  intro k ci r h
  unfold xci_10 at h
  split at h
  · split at h
    · cases h; exact xci_10_3_2_r
    · cases h; exact xci_10_3_4_r
    · cases h; exact xci_10_3_9_r
    · cases h
  · split at h
    · cases h; exact xci_10_15_9_r
    · cases h
  · split at h
    · cases h; exact xci_10_19_9_r
    · cases h
  · cases h
theorem xci_11_ok : ∀ (k ci : Nat) (r : xMd), xci_11 k ci = some r → xCvR .invokespecial 11 k ci r := by
  intro k ci r h
  unfold xci_11 at h
  split at h
  · split at h
    · cases h; exact xci_11_9_7_r
    · cases h
  · split at h
    · cases h; exact xci_11_22_3_r
    · cases h
  · split at h
    · cases h; exact xci_11_38_8_r
    · cases h
  · split at h
    · cases h; exact xci_11_85_6_r
    · cases h
  · cases h
theorem xci_13_ok : ∀ (k ci : Nat) (r : xMd), xci_13 k ci = some r → xCvR .invokespecial 13 k ci r := by
  intro k ci r h
  unfold xci_13 at h
  split at h
  · split at h
    · cases h; exact xci_13_9_10_r
    · cases h
  · split at h
    · cases h; exact xci_13_12_11_r
    · cases h
  · cases h
theorem xci_ok : ∀ (o k ci : Nat) (r : xMd), xci o k ci = some r → xCvR .invokespecial o k ci r := by
  intro o k ci r h
  unfold xci at h
  split at h
  · exact xci_0_ok k ci r h
  · exact xci_1_ok k ci r h
  · exact xci_2_ok k ci r h
  · exact xci_4_ok k ci r h
  · exact xci_7_ok k ci r h
  · exact xci_10_ok k ci r h
  · exact xci_11_ok k ci r h
  · exact xci_13_ok k ci r h
  · cases h
def xCsR (o k : Nat) (r : Nat × xMd) : Prop := xRuleS (xown o) k r.1 r.2.2.1 r.2.2.2.1 r.2.2.2.2.1 r.2.2.2.2.2.1 ∧ xMok r.2
theorem xcs_3_82_r : xCsR 3 82 (1, m_X11_atMost) := ⟨xr_SN (host := "DustReads") (by decide +kernel) xw_905 xw_124 xw_904 ⟨by decide, by decide, by decide +kernel⟩, by decide +kernel, rfl⟩
theorem xcs_3_113_r : xCsR 3 113 (2, m_X11_isIn) := ⟨xr_SN (host := "DustReads") (by decide +kernel) xw_907 xw_124 xw_906 ⟨by decide, by decide, by decide +kernel⟩, by decide +kernel, rfl⟩
theorem xcs_7_79_r : xCsR 7 79 (3, m_X7_newPlace) := ⟨xr_S xw_910 xw_909 xw_102 xw_908 ⟨by decide, by decide, by decide +kernel⟩, by decide +kernel, rfl⟩
theorem xcs_7_149_r : xCsR 7 149 (1, m_X7_isLetter) := ⟨xr_S xw_913 xw_912 xw_102 xw_911 ⟨by decide, by decide, by decide +kernel⟩, by decide +kernel, rfl⟩
theorem xcs_7_153_r : xCsR 7 153 (1, m_X7_isFigure) := ⟨xr_S xw_916 xw_915 xw_102 xw_914 ⟨by decide, by decide, by decide +kernel⟩, by decide +kernel, rfl⟩
theorem xcs_8_23_r : xCsR 8 23 (2, m_J7_fill_53178) := ⟨xr_S xw_920 xw_918 xw_919 xw_917 ⟨by decide, by decide, by decide +kernel⟩, by decide +kernel, rfl⟩
theorem xcs_11_148_r : xCsR 11 148 (2, m_X11_isIn) := ⟨xr_S xw_921 xw_907 xw_124 xw_906 ⟨by decide, by decide, by decide +kernel⟩, by decide +kernel, rfl⟩
theorem xcs_11_177_r : xCsR 11 177 (1, m_X11_isEither) := ⟨xr_S xw_924 xw_923 xw_124 xw_922 ⟨by decide, by decide, by decide +kernel⟩, by decide +kernel, rfl⟩
theorem xcs_11_216_r : xCsR 11 216 (1, m_J6_bitCount_0f7a4) := ⟨xr_S xw_928 xw_926 xw_927 xw_925 ⟨by decide, by decide, by decide +kernel⟩, by decide +kernel, rfl⟩
theorem xcs_11_231_r : xCsR 11 231 (2, m_X11_isOfKind) := ⟨xr_S xw_931 xw_930 xw_124 xw_929 ⟨by decide, by decide, by decide +kernel⟩, by decide +kernel, rfl⟩
theorem xcs_11_260_r : xCsR 11 260 (1, m_X11_atMost) := ⟨xr_S xw_932 xw_905 xw_124 xw_904 ⟨by decide, by decide, by decide +kernel⟩, by decide +kernel, rfl⟩
theorem xcs_12_47_r : xCsR 12 47 (3, m_X12_in) := ⟨xr_S xw_935 xw_934 xw_127 xw_933 ⟨by decide, by decide, by decide +kernel⟩, by decide +kernel, rfl⟩
theorem xcs_12_51_r : xCsR 12 51 (1, m_X12_isRow) := ⟨xr_S xw_938 xw_937 xw_127 xw_936 ⟨by decide, by decide, by decide +kernel⟩, by decide +kernel, rfl⟩
theorem xcs_12_161_r : xCsR 12 161 (1, m_X12_atMost) := ⟨xr_S xw_941 xw_940 xw_127 xw_939 ⟨by decide, by decide, by decide +kernel⟩, by decide +kernel, rfl⟩
theorem xcs_12_173_r : xCsR 12 173 (2, m_X12_has) := ⟨xr_S xw_944 xw_943 xw_127 xw_942 ⟨by decide, by decide, by decide +kernel⟩, by decide +kernel, rfl⟩
theorem xcs_12_200_r : xCsR 12 200 (1, m_X12_bits) := ⟨xr_S xw_947 xw_946 xw_127 xw_945 ⟨by decide, by decide, by decide +kernel⟩, by decide +kernel, rfl⟩
theorem xcs_12_206_r : xCsR 12 206 (2, m_X12_isA) := ⟨xr_S xw_950 xw_949 xw_127 xw_948 ⟨by decide, by decide, by decide +kernel⟩, by decide +kernel, rfl⟩
theorem xcs_3_ok : ∀ (k : Nat) (r : Nat × xMd), xcs_3 k = some r → xCsR 3 k r := by
  intro k r h
  unfold xcs_3 at h
  split at h
  · cases h; exact xcs_3_82_r
  · cases h; exact xcs_3_113_r
  · cases h
theorem xcs_7_ok : ∀ (k : Nat) (r : Nat × xMd), xcs_7 k = some r → xCsR 7 k r := by
  intro k r h
  unfold xcs_7 at h
  split at h
  · cases h; exact xcs_7_79_r
  · cases h; exact xcs_7_149_r
  · cases h; exact xcs_7_153_r
  · cases h
theorem xcs_8_ok : ∀ (k : Nat) (r : Nat × xMd), xcs_8 k = some r → xCsR 8 k r := by
  intro k r h
  unfold xcs_8 at h
  split at h
  · cases h; exact xcs_8_23_r
  · cases h
theorem xcs_11_ok : ∀ (k : Nat) (r : Nat × xMd), xcs_11 k = some r → xCsR 11 k r := by
  intro k r h
  unfold xcs_11 at h
  split at h
  · cases h; exact xcs_11_148_r
  · cases h; exact xcs_11_177_r
  · cases h; exact xcs_11_216_r
  · cases h; exact xcs_11_231_r
  · cases h; exact xcs_11_260_r
  · cases h
theorem xcs_12_ok : ∀ (k : Nat) (r : Nat × xMd), xcs_12 k = some r → xCsR 12 k r := by
  intro k r h
  unfold xcs_12 at h
  split at h
  · cases h; exact xcs_12_47_r
  · cases h; exact xcs_12_51_r
  · cases h; exact xcs_12_161_r
  · cases h; exact xcs_12_173_r
  · cases h; exact xcs_12_200_r
  · cases h; exact xcs_12_206_r
  · cases h
theorem xcs_ok : ∀ (o k : Nat) (r : Nat × xMd), xcs o k = some r → xCsR o k r := by
  intro o k r h
  unfold xcs at h
  split at h
  · exact xcs_3_ok k r h
  · exact xcs_7_ok k r h
  · exact xcs_8_ok k r h
  · exact xcs_11_ok k r h
  · exact xcs_12_ok k r h
  · cases h
def xPrR (o k q : Nat) : Prop := (q = 1 ∧ Cond.methodLink (xown o) k objectInit ∈ xWg) ∨ (q = 2 ∧ Cond.methodLink (xown o) k Lib.Math.max.name ∈ xWg) ∨ (q = 3 ∧ Cond.methodLink (xown o) k Lib.Math.min.name ∈ xWg) ∨ (q = 4 ∧ Cond.methodLink (xown o) k arraycopyName ∈ xWg) ∨ (q = 5 ∧ Cond.methodLink (xown o) k yJ0_length_8abf5 ∈ xWg) ∨ (q = 6 ∧ Cond.methodLink (xown o) k yJ0_charAt_5068e ∈ xWg)
theorem xpr_3_ok : ∀ (k : Nat) (r : Nat), xpr_3 k = some r → xPrR 3 k r := by
  intro k r h
  unfold xpr_3 at h
  split at h
  · cases h; exact Or.inl ⟨rfl, xw_951⟩
  · cases h; exact Or.inr (Or.inr (Or.inr (Or.inl ⟨rfl, xw_952⟩)))
  · cases h; exact Or.inr (Or.inl ⟨rfl, xw_953⟩)
  · cases h; exact Or.inr (Or.inr (Or.inl ⟨rfl, xw_954⟩))
  · cases h
theorem xpr_5_ok : ∀ (k : Nat) (r : Nat), xpr_5 k = some r → xPrR 5 k r := by
  intro k r h
  unfold xpr_5 at h
  split at h
  · cases h; exact Or.inl ⟨rfl, xw_955⟩
  · cases h
theorem xpr_6_ok : ∀ (k : Nat) (r : Nat), xpr_6 k = some r → xPrR 6 k r := by
  intro k r h
  unfold xpr_6 at h
  split at h
  · cases h; exact Or.inl ⟨rfl, xw_956⟩
  · cases h
theorem xpr_7_ok : ∀ (k : Nat) (r : Nat), xpr_7 k = some r → xPrR 7 k r := by
  intro k r h
  unfold xpr_7 at h
  split at h
  · cases h; exact Or.inl ⟨rfl, xw_957⟩
  · cases h; exact Or.inr (Or.inr (Or.inl ⟨rfl, xw_958⟩))
  · cases h; exact Or.inr (Or.inr (Or.inr (Or.inr (Or.inl ⟨rfl, xw_959⟩))))
  · cases h; exact Or.inr (Or.inr (Or.inr (Or.inr (Or.inr (⟨rfl, xw_960⟩)))))
  · cases h
theorem xpr_8_ok : ∀ (k : Nat) (r : Nat), xpr_8 k = some r → xPrR 8 k r := by
  intro k r h
  unfold xpr_8 at h
  split at h
  · cases h; exact Or.inl ⟨rfl, xw_961⟩
  · cases h; exact Or.inr (Or.inr (Or.inr (Or.inl ⟨rfl, xw_962⟩)))
  · cases h
theorem xpr_9_ok : ∀ (k : Nat) (r : Nat), xpr_9 k = some r → xPrR 9 k r := by
  intro k r h
  unfold xpr_9 at h
  split at h
  · cases h; exact Or.inl ⟨rfl, xw_963⟩
  · cases h
theorem xpr_11_ok : ∀ (k : Nat) (r : Nat), xpr_11 k = some r → xPrR 11 k r := by
  intro k r h
  unfold xpr_11 at h
  split at h
  · cases h; exact Or.inl ⟨rfl, xw_964⟩
  · cases h; exact Or.inr (Or.inr (Or.inl ⟨rfl, xw_965⟩))
  · cases h
theorem xpr_12_ok : ∀ (k : Nat) (r : Nat), xpr_12 k = some r → xPrR 12 k r := by
  intro k r h
  unfold xpr_12 at h
  split at h
  · cases h; exact Or.inl ⟨rfl, xw_966⟩
  · cases h
theorem xpr_ok : ∀ (o k : Nat) (r : Nat), xpr o k = some r → xPrR o k r := by
  intro o k r h
  unfold xpr at h
  split at h
  · exact xpr_3_ok k r h
  · exact xpr_5_ok k r h
  · exact xpr_6_ok k r h
  · exact xpr_7_ok k r h
  · exact xpr_8_ok k r h
  · exact xpr_9_ok k r h
  · exact xpr_11_ok k r h
  · exact xpr_12_ok k r h
  · cases h
