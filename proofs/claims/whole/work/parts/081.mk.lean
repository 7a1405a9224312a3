def db_mkr (a n : Nat) : Bool := (List.range' a n).all db_mk
theorem db_mkr_1 : db_mkr 1 5 = true := by decide +kernel
theorem db_mkr_6 : db_mkr 6 5 = true := by decide +kernel
theorem db_mkr_11 : db_mkr 11 5 = true := by decide +kernel
theorem db_mkr_16 : db_mkr 16 5 = true := by decide +kernel
theorem db_mkr_21 : db_mkr 21 5 = true := by decide +kernel
theorem db_mkr_26 : db_mkr 26 5 = true := by decide +kernel
theorem db_mkr_31 : db_mkr 31 5 = true := by decide +kernel
theorem db_mkr_36 : db_mkr 36 5 = true := by decide +kernel
theorem db_mkr_41 : db_mkr 41 5 = true := by decide +kernel
theorem db_mkr_46 : db_mkr 46 5 = true := by decide +kernel
theorem db_mkr_51 : db_mkr 51 5 = true := by decide +kernel
theorem db_mkr_56 : db_mkr 56 5 = true := by decide +kernel
theorem db_mkr_61 : db_mkr 61 5 = true := by decide +kernel
theorem db_mkr_66 : db_mkr 66 5 = true := by decide +kernel
theorem db_mkr_71 : db_mkr 71 5 = true := by decide +kernel
theorem db_mkr_76 : db_mkr 76 5 = true := by decide +kernel
theorem db_mkr_81 : db_mkr 81 5 = true := by decide +kernel
theorem db_mkr_86 : db_mkr 86 5 = true := by decide +kernel
theorem db_mkr_91 : db_mkr 91 5 = true := by decide +kernel
theorem db_mkr_96 : db_mkr 96 5 = true := by decide +kernel
theorem db_mkr_101 : db_mkr 101 5 = true := by decide +kernel
theorem db_mkr_106 : db_mkr 106 5 = true := by decide +kernel
theorem db_mkr_111 : db_mkr 111 5 = true := by decide +kernel
theorem db_mkr_116 : db_mkr 116 5 = true := by decide +kernel
theorem db_mkr_121 : db_mkr 121 5 = true := by decide +kernel
theorem db_mkr_126 : db_mkr 126 5 = true := by decide +kernel
theorem db_mkr_131 : db_mkr 131 5 = true := by decide +kernel
theorem db_mkr_136 : db_mkr 136 5 = true := by decide +kernel
theorem db_mkr_141 : db_mkr 141 5 = true := by decide +kernel
theorem db_mkr_146 : db_mkr 146 5 = true := by decide +kernel
theorem db_mkr_151 : db_mkr 151 5 = true := by decide +kernel
theorem db_mkr_156 : db_mkr 156 5 = true := by decide +kernel
theorem db_mkr_161 : db_mkr 161 5 = true := by decide +kernel
theorem db_mkr_166 : db_mkr 166 5 = true := by decide +kernel
theorem db_mkr_171 : db_mkr 171 5 = true := by decide +kernel
theorem db_mkr_at {a n y : Nat} (h : db_mkr a n = true) (h1 : a ≤ y) (h2 : y < a + n) : db_mk y = true := List.all_eq_true.mp h y (List.mem_range'_1.mpr ⟨h1, h2⟩)
theorem db_mw_len : db_mw.length = 176 := by decide +kernel
theorem db_mk_all {y : Nat} (h1 : 1 ≤ y) (h2 : y < 176) : db_mk y = true := by
  rcases Nat.lt_or_ge y 6 with c | c0
  · exact db_mkr_at db_mkr_1 (by omega) (by omega)
  rcases Nat.lt_or_ge y 11 with c | c1
  · exact db_mkr_at db_mkr_6 (by omega) (by omega)
  rcases Nat.lt_or_ge y 16 with c | c2
  · exact db_mkr_at db_mkr_11 (by omega) (by omega)
  rcases Nat.lt_or_ge y 21 with c | c3
  · exact db_mkr_at db_mkr_16 (by omega) (by omega)
  rcases Nat.lt_or_ge y 26 with c | c4
  · exact db_mkr_at db_mkr_21 (by omega) (by omega)
  rcases Nat.lt_or_ge y 31 with c | c5
  · exact db_mkr_at db_mkr_26 (by omega) (by omega)
  rcases Nat.lt_or_ge y 36 with c | c6
  · exact db_mkr_at db_mkr_31 (by omega) (by omega)
  rcases Nat.lt_or_ge y 41 with c | c7
  · exact db_mkr_at db_mkr_36 (by omega) (by omega)
  rcases Nat.lt_or_ge y 46 with c | c8
  · exact db_mkr_at db_mkr_41 (by omega) (by omega)
  rcases Nat.lt_or_ge y 51 with c | c9
  · exact db_mkr_at db_mkr_46 (by omega) (by omega)
  rcases Nat.lt_or_ge y 56 with c | c10
  · exact db_mkr_at db_mkr_51 (by omega) (by omega)
  rcases Nat.lt_or_ge y 61 with c | c11
  · exact db_mkr_at db_mkr_56 (by omega) (by omega)
  rcases Nat.lt_or_ge y 66 with c | c12
  · exact db_mkr_at db_mkr_61 (by omega) (by omega)
  rcases Nat.lt_or_ge y 71 with c | c13
  · exact db_mkr_at db_mkr_66 (by omega) (by omega)
  rcases Nat.lt_or_ge y 76 with c | c14
  · exact db_mkr_at db_mkr_71 (by omega) (by omega)
  rcases Nat.lt_or_ge y 81 with c | c15
  · exact db_mkr_at db_mkr_76 (by omega) (by omega)
  rcases Nat.lt_or_ge y 86 with c | c16
  · exact db_mkr_at db_mkr_81 (by omega) (by omega)
  rcases Nat.lt_or_ge y 91 with c | c17
  · exact db_mkr_at db_mkr_86 (by omega) (by omega)
  rcases Nat.lt_or_ge y 96 with c | c18
  · exact db_mkr_at db_mkr_91 (by omega) (by omega)
  rcases Nat.lt_or_ge y 101 with c | c19
  · exact db_mkr_at db_mkr_96 (by omega) (by omega)
  rcases Nat.lt_or_ge y 106 with c | c20
  · exact db_mkr_at db_mkr_101 (by omega) (by omega)
  rcases Nat.lt_or_ge y 111 with c | c21
  · exact db_mkr_at db_mkr_106 (by omega) (by omega)
  rcases Nat.lt_or_ge y 116 with c | c22
  · exact db_mkr_at db_mkr_111 (by omega) (by omega)
  rcases Nat.lt_or_ge y 121 with c | c23
  · exact db_mkr_at db_mkr_116 (by omega) (by omega)
  rcases Nat.lt_or_ge y 126 with c | c24
  · exact db_mkr_at db_mkr_121 (by omega) (by omega)
  rcases Nat.lt_or_ge y 131 with c | c25
  · exact db_mkr_at db_mkr_126 (by omega) (by omega)
  rcases Nat.lt_or_ge y 136 with c | c26
  · exact db_mkr_at db_mkr_131 (by omega) (by omega)
  rcases Nat.lt_or_ge y 141 with c | c27
  · exact db_mkr_at db_mkr_136 (by omega) (by omega)
  rcases Nat.lt_or_ge y 146 with c | c28
  · exact db_mkr_at db_mkr_141 (by omega) (by omega)
  rcases Nat.lt_or_ge y 151 with c | c29
  · exact db_mkr_at db_mkr_146 (by omega) (by omega)
  rcases Nat.lt_or_ge y 156 with c | c30
  · exact db_mkr_at db_mkr_151 (by omega) (by omega)
  rcases Nat.lt_or_ge y 161 with c | c31
  · exact db_mkr_at db_mkr_156 (by omega) (by omega)
  rcases Nat.lt_or_ge y 166 with c | c32
  · exact db_mkr_at db_mkr_161 (by omega) (by omega)
  rcases Nat.lt_or_ge y 171 with c | c33
  · exact db_mkr_at db_mkr_166 (by omega) (by omega)
  exact db_mkr_at db_mkr_171 (by omega) (by omega)
