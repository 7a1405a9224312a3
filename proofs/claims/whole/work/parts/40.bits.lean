/-! bits (pasted from kit/laws/BITS), numbers, stores -/
/-! ===== Int32 by its bits: bt x i ===== -/
def bt (x : Int32) (i : Nat) : Bool := x.toBitVec.getLsbD i
theorem b_ext {x y : Int32} (h : ∀ i, i < 32 → bt x i = bt y i) : x = y := Int32.toBitVec_inj.mp (BitVec.eq_of_getLsbD_eq (fun i hi => h i hi))
theorem b_or (x y : Int32) (i : Nat) : bt (x ||| y) i = (bt x i || bt y i) := by unfold bt; rw [Int32.toBitVec_or, BitVec.getLsbD_or]
theorem b_and (x y : Int32) (i : Nat) : bt (x &&& y) i = (bt x i && bt y i) := by unfold bt; rw [Int32.toBitVec_and, BitVec.getLsbD_and]
theorem b_xor (x y : Int32) (i : Nat) : bt (x ^^^ y) i = (bt x i ^^ bt y i) := by unfold bt; rw [Int32.toBitVec_xor, BitVec.getLsbD_xor]
theorem b_big {x : Int32} {i : Nat} (h : 32 ≤ i) : bt x i = false := BitVec.getLsbD_of_ge _ _ h
theorem b_255 (i : Nat) : bt 255 i = decide (i < 8) := by
  rcases Nat.lt_or_ge i 32 with h | h
  · exact (by decide +kernel : ∀ i, i < 32 → bt 255 i = decide (i < 8)) i h
  · rw [b_big h, decide_eq_false (by omega)]
theorem b_65535 (i : Nat) : bt 65535 i = decide (i < 16) := by
  rcases Nat.lt_or_ge i 32 with h | h
  · exact (by decide +kernel : ∀ i, i < 32 → bt 65535 i = decide (i < 16)) i h
  · rw [b_big h, decide_eq_false (by omega)]
theorem b_m1 : ∀ i, i < 32 → bt (-1) i = true := by decide +kernel
theorem b_0 (i : Nat) : bt 0 i = false := BitVec.getLsbD_zero
theorem s_l : ∀ n, n < 32 → ((nI n &&& 31).toBitVec.smod 32).toNat = n := by decide +kernel
theorem s_u : ∀ n, n < 32 → (((nI n).toUInt32 &&& Int32.toUInt32 31).toBitVec % 32).toNat = n := by decide +kernel
theorem b_shl (n : Nat) (hn : n < 32) (x : Int32) {i : Nat} (hi : i < 32) : bt (x <<< (nI n &&& 31)) i = (decide (n ≤ i) && bt x (i - n)) := by
  unfold bt
  rw [Int32.toBitVec_shiftLeft]
  show (x.toBitVec <<< ((nI n &&& 31).toBitVec.smod 32).toNat).getLsbD i = _
  rw [s_l n hn, BitVec.getLsbD_shiftLeft]
  rcases Nat.lt_or_ge i n with h | h
  · simp [h, Nat.not_le.mpr h]
  · simp [hi, h, Nat.not_lt.mpr h]
theorem b_ushr (n : Nat) (hn : n < 32) (x : Int32) (i : Nat) : bt ((x.toUInt32 >>> ((nI n).toUInt32 &&& Int32.toUInt32 31)).toInt32) i = bt x (n + i) := by
  show (x.toUInt32 >>> ((nI n).toUInt32 &&& Int32.toUInt32 31)).toBitVec.getLsbD i = x.toUInt32.toBitVec.getLsbD (n + i)
  rw [UInt32.toBitVec_shiftRight]
  show (x.toUInt32.toBitVec >>> (((nI n).toUInt32 &&& Int32.toUInt32 31).toBitVec % 32).toNat).getLsbD i = _
  rw [s_u n hn, BitVec.getLsbD_ushiftRight]
theorem b_sshr (n : Nat) (hn : n < 32) (x : Int32) {i : Nat} (hi : i < 32) : bt (x >>> (nI n &&& 31)) i = if n + i < 32 then bt x (n + i) else bt x 31 := by
  unfold bt
  rw [Int32.toBitVec_shiftRight]
  show (x.toBitVec.sshiftRight ((nI n &&& 31).toBitVec.smod 32).toNat).getLsbD i = _
  rw [s_l n hn, BitVec.getLsbD_sshiftRight, BitVec.msb_eq_getLsbD_last]
  simp [hi]
/-! ===== numbers ===== -/
theorem in_nI {j n : Nat} (h : j < n) (hn : n < 2 ^ 31) : db_in (nI j) n = true := by
  have := nI_in h hn
  simp only [db_in, Bool.not_eq_true', Bool.or_eq_false_iff, decide_eq_false_iff_not]
  exact ⟨fun q => this (Or.inl q), fun q => this (Or.inr q)⟩
theorem in_or (i : Int32) {n : Nat} (hn : n < 2 ^ 31) : (db_in i n = true ∧ ∃ j, j < n ∧ i = nI j) ∨ (db_in i n = false ∧ (i < nI 0 ∨ (¬ i < nI 0 ∧ nI n ≤ i))) := by
  rcases pk_ix i hn with h | h | ⟨j, hj, rfl⟩
  · exact Or.inr ⟨by simp [db_in, h], Or.inl h⟩
  · by_cases h0 : i < nI 0
    · have h0' : i < 0 := h0
      exact Or.inr ⟨by simp [db_in, h0'], Or.inl h0⟩
    · obtain ⟨m, hm, rfl⟩ := nI_of h0
      have hle : n ≤ m := (nI_leI hn hm).mp h
      refine Or.inr ⟨?_, Or.inr ⟨h0, h⟩⟩
      simp [db_in, nI_clamp hm, hle]
  · exact Or.inl ⟨in_nI hj hn, j, hj, rfl⟩
theorem nI_lt0 {n : Nat} (h : n < 2 ^ 31) : ¬ nI n < nI 0 := nI_pos h
theorem nI_s3 {n : Nat} (h : n < 2 ^ 31) : nI n >>> (nI 3 &&& 31) = nI (n / 8) := pk_shrN h _ 3 (by decide +kernel)
theorem nI_a7 {n : Nat} (h : n < 2 ^ 31) : nI n &&& nI 7 = nI (n % 8) := pk_andN (by omega) 3 (by decide +kernel)
theorem hs_self {h : db_H} {o : Nat} {c : db_C} (ho : h[o]? = some c) : h.set o c = h := by
  obtain ⟨hl, e⟩ := List.getElem?_eq_some_iff.mp ho
  subst e
  exact List.set_getElem_self hl
theorem hs_comm {h : db_H} {o r : Nat} {a b : db_C} (hn : ¬ o = r) : (h.set o a).set r b = (h.set r b).set o a := List.set_comm a b hn
theorem hs_over {h : db_H} {o : Nat} {a b : db_C} : (h.set o a).set o b = h.set o b := List.set_set a
theorem hs_at {h : db_H} {o : Nat} {c : db_C} (ho : o < h.length) : (h.set o c)[o]? = some c := List.getElem?_set_self ho
theorem b_n1 : ∀ i, i < 32 → bt (nI 1) i = decide (i = 0) := by decide +kernel
theorem b_1 (i : Nat) : bt (nI 1) i = decide (i = 0) := by
  rcases Nat.lt_or_ge i 32 with h | h
  · exact b_n1 i h
  · rw [b_big h, decide_eq_false (by omega)]
theorem gd_self {l : List Int32} {i : Nat} {x d : Int32} (h : i < l.length) : (l.set i x).getD i d = x := by
  rw [List.getD_eq_getElem?_getD, List.getElem?_set_self h, Option.getD_some]
theorem gd_ne {l : List Int32} {i j : Nat} {x d : Int32} (h : ¬ i = j) : (l.set i x).getD j d = l.getD j d := by
  rw [List.getD_eq_getElem?_getD, List.getElem?_set_ne h, List.getD_eq_getElem?_getD]
theorem gs_nx {y pc : Nat} {L L0 S : List Value} {h h0 : db_H} {P : Option Value → db_H → Prop} : db_Gs y L0 h0 P (db_nx pc L S h) ↔ db_Go y pc L S h P := Iff.rfl
theorem m8_ofInt : Int32.ofInt (-8) = -nI 8 := by decide +kernel
theorem m1_ofInt : Int32.ofInt (-1) = -nI 1 := by decide +kernel
theorem nI_addm (a b : Nat) (h : b ≤ a) : nI a + -nI b = nI (a - b) := by
  rw [← pk_sub h, Int32.sub_eq_add_neg]
