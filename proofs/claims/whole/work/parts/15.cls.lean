/-! the classes: words, types, names -/
theorem db_cls {ci : Nat} {C : String} {T : u_T} {N : Nat} (h : db_cl[ci]? = some (C, T, N)) : (∀ w ∈ u_ws C T N, w ∈ db_tb) ∧ (∃ ty : Nat → FieldType, ∀ k, k < N → parseFieldDescriptor (T k).2.2.1 = some (ty k)) ∧ (∀ a, a < N → ∀ b, b < N → a ≠ b → (T a).2.1 ≠ (T b).2.1) ∧ Cond.instantiable C N ∈ db_tb ∧ Cond.initialized C ∈ db_tb := by
  match ci, h with
  | 0, h => cases h; exact ⟨db_in_ws db_w0 (by decide +kernel), ⟨db_t0, db_y0⟩, db_n0, db_in_tb (i := 427) (by decide +kernel) rfl, db_in_tb (i := 82) (by decide +kernel) rfl⟩
  | 1, h => cases h; exact ⟨db_in_ws db_w1 (by decide +kernel), ⟨db_t1, db_y1⟩, db_n1, db_in_tb (i := 94) (by decide +kernel) rfl, db_in_tb (i := 70) (by decide +kernel) rfl⟩
  | 2, h => cases h; exact ⟨db_in_ws db_w2 (by decide +kernel), ⟨db_t2, db_y2⟩, db_n2, db_in_tb (i := 191) (by decide +kernel) rfl, db_in_tb (i := 76) (by decide +kernel) rfl⟩
  | 3, h => cases h; exact ⟨db_in_ws db_w3 (by decide +kernel), ⟨db_t3, db_y3⟩, db_n3, db_in_tb (i := 119) (by decide +kernel) rfl, db_in_tb (i := 72) (by decide +kernel) rfl⟩
  | 4, h => cases h; exact ⟨db_in_ws db_w4 (by decide +kernel), ⟨db_t4, db_y4⟩, db_n4, db_in_tb (i := 263) (by decide +kernel) rfl, db_in_tb (i := 79) (by decide +kernel) rfl⟩
  | 5, h => cases h; exact ⟨db_in_ws db_w5 (by decide +kernel), ⟨db_t5, db_y5⟩, db_n5, db_in_tb (i := 366) (by decide +kernel) rfl, db_in_tb (i := 80) (by decide +kernel) rfl⟩
  | 6, h => cases h; exact ⟨db_in_ws db_w6 (by decide +kernel), ⟨db_t6, db_y6⟩, db_n6, db_in_tb (i := 255) (by decide +kernel) rfl, db_in_tb (i := 78) (by decide +kernel) rfl⟩
  | 7, h => cases h; exact ⟨db_in_ws db_w7 (by decide +kernel), ⟨db_t7, db_y7⟩, db_n7, db_in_tb (i := 166) (by decide +kernel) rfl, db_in_tb (i := 74) (by decide +kernel) rfl⟩
  | 8, h => cases h; exact ⟨db_in_ws db_w8 (by decide +kernel), ⟨db_t8, db_y8⟩, db_n8, db_in_tb (i := 372) (by decide +kernel) rfl, db_in_tb (i := 81) (by decide +kernel) rfl⟩
  | 9, h => cases h; exact ⟨db_in_ws db_w9 (by decide +kernel), ⟨db_t9, db_y9⟩, db_n9, db_in_tb (i := 133) (by decide +kernel) rfl, db_in_tb (i := 73) (by decide +kernel) rfl⟩
  | 10, h => cases h; exact ⟨db_in_ws db_w10 (by decide +kernel), ⟨db_t10, db_y10⟩, db_n10, db_in_tb (i := 172) (by decide +kernel) rfl, db_in_tb (i := 75) (by decide +kernel) rfl⟩
  | 11, h => cases h; exact ⟨db_in_ws db_w11 (by decide +kernel), ⟨db_t11, db_y11⟩, db_n11, db_in_tb (i := 86) (by decide +kernel) rfl, db_in_tb (i := 69) (by decide +kernel) rfl⟩
  | 12, h => cases h; exact ⟨db_in_ws db_w12 (by decide +kernel), ⟨db_t12, db_y12⟩, db_n12, db_in_tb (i := 933) (by decide +kernel) rfl, db_in_tb (i := 83) (by decide +kernel) rfl⟩
  | ci + 13, h => simp [db_cl] at h
theorem db_x1 : Cond.static Lib.Math.max.name ∈ db_tb := db_in_tb (i := 100) (by decide +kernel) rfl
theorem db_x2 : Cond.static Lib.Math.min.name ∈ db_tb := db_in_tb (i := 536) (by decide +kernel) rfl
theorem db_x3 : Cond.initialized "java/lang/Math" ∈ db_tb := db_in_tb (i := 71) (by decide +kernel) rfl
theorem db_x4 : Cond.code Lib.Math.max.name Lib.Math.max.code 2 (some .int) ∈ db_tb := db_in_tb (i := 101) (by decide +kernel) rfl
theorem db_x5 : Cond.code Lib.Math.min.name Lib.Math.min.code 2 (some .int) ∈ db_tb := db_in_tb (i := 537) (by decide +kernel) rfl
theorem db_x6 : Cond.native arraycopyName ∈ db_tb := db_in_tb (i := 628) (by decide +kernel) rfl
theorem db_x7 : Cond.static arraycopyName ∈ db_tb := db_in_tb (i := 627) (by decide +kernel) rfl
theorem db_x8 : Cond.initialized "java/lang/System" ∈ db_tb := db_in_tb (i := 84) (by decide +kernel) rfl
theorem db_x9 : Cond.instanceMethod Lib.objectInit ∈ db_tb := db_in_tb (i := 91) (by decide +kernel) rfl
theorem db_x10 : Cond.code Lib.objectInit ⟨#[0xb1]⟩ 1 none ∈ db_tb := db_in_tb (i := 92) (by decide +kernel) rfl
theorem db_x11 : Cond.arrayClass .int ∈ db_tb := db_in_tb (i := 117) (by decide +kernel) rfl
theorem db_x12 : Cond.arrayClass .boolean ∈ db_tb := db_in_tb (i := 1092) (by decide +kernel) rfl
