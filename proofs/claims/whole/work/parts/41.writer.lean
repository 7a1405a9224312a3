/-! the writer: cells 17 (its object) and 18 (its row); W: the bits written so far -/
def wr (h : db_H) (l : List Int32) (n : Nat) : db_H := (h.set 18 (.inl (0, l))).set 17 (.inr (10, [.ref 18, .int (nI n)]))
theorem wr_17 {h : db_H} {l : List Int32} {n : Nat} (hl : 18 < h.length) : (wr h l n)[17]? = some (.inr (10, [.ref 18, .int (nI n)])) := hs_at (by rw [List.length_set]; omega)
theorem wr_18 {h : db_H} {l : List Int32} {n : Nat} (hl : 18 < h.length) : (wr h l n)[18]? = some (.inl (0, l)) := (hs_ne (by decide)).trans (hs_at hl)
theorem wr_ne {h : db_H} {l : List Int32} {n k : Nat} (h1 : ¬ 17 = k) (h2 : ¬ 18 = k) : (wr h l n)[k]? = h[k]? := (hs_ne h1).trans (hs_ne h2)
theorem wr_len {h : db_H} {l : List Int32} {n : Nat} : (wr h l n).length = h.length := by simp [wr]
theorem wr_wr {h : db_H} {l l' : List Int32} {n n' : Nat} : wr (wr h l n) l' n' = wr h l' n' := by
  simp only [wr]
  rw [hs_comm (o := 17) (r := 18) (by decide), hs_over, hs_over]
theorem wr_n {h : db_H} {l : List Int32} {n n' : Nat} : (wr h l n).set 17 (.inr (10, [.ref 18, .int (nI n')])) = wr h l n' := by
  simp only [wr, hs_over]
theorem wr_l {h : db_H} {l l' : List Int32} {n n' : Nat} : ((wr h l n).set 18 (.inl (0, l'))).set 17 (.inr (10, [.ref 18, .int (nI n')])) = wr h l' n' := by
  simp only [wr]
  rw [hs_comm (o := 17) (r := 18) (by decide), hs_over, hs_over]
def wOK (l : List Int32) (W : List Bool) : Prop := l.length = 400 ∧ (∀ (j i : Nat), 8 ≤ i → bt (l.getD j 0) i = false) ∧ ∀ (i : Nat) (b : Bool), W[i]? = some b → i < 3200 → bt (l.getD (i / 8) 0) (i % 8) = b
theorem n5_17 : ¬ 17 < db_n := by decide
theorem n5_18 : ¬ 18 < db_n := by decide
/-- the new byte, bit by bit -/
theorem wb_bit {x b : Int32} {k i : Nat} (hk : k < 8) (hx : ∀ i, 8 ≤ i → bt x i = false) (hi : i < 32) : bt (x &&& (nI 1 <<< (nI k &&& 31) ^^^ -1) ||| (b &&& nI 1) <<< (nI k &&& 31)) i = if i = k then bt b 0 else bt x i := by
  rw [b_or, b_and, b_xor, b_m1 i hi, b_shl k (by omega) _ hi, b_shl k (by omega) _ hi, b_and, b_1]
  by_cases e : i = k
  · subst e
    simp
  · rw [if_neg e]
    by_cases e2 : k ≤ i
    · have : ¬ i - k = 0 := by omega
      simp [this]
    · simp [e2]
theorem wOK_put {l : List Int32} {W : List Bool} {b : Int32} (hW : wOK l W) (hn : W.length < 3200) : wOK (l.set (W.length / 8) (l.getD (W.length / 8) 0 &&& (nI 1 <<< (nI (W.length % 8) &&& 31) ^^^ -1) ||| (b &&& nI 1) <<< (nI (W.length % 8) &&& 31))) (W ++ [bt b 0]) := by
  obtain ⟨h1, h2, h3⟩ := hW
  have hlt : W.length / 8 < l.length := by omega
  have hk : W.length % 8 < 8 := Nat.mod_lt _ (by decide)
  have key : ∀ (j i : Nat), bt ((l.set (W.length / 8) (l.getD (W.length / 8) 0 &&& (nI 1 <<< (nI (W.length % 8) &&& 31) ^^^ -1) ||| (b &&& nI 1) <<< (nI (W.length % 8) &&& 31))).getD j 0) i = if j = W.length / 8 ∧ i = W.length % 8 then bt b 0 else bt (l.getD j 0) i := by
    intro j i
    by_cases hj : j = W.length / 8
    · subst hj
      rw [gd_self hlt]
      rcases Nat.lt_or_ge i 32 with hi | hi
      · rw [wb_bit hk (h2 _) hi]
        by_cases e : i = W.length % 8 <;> simp [e]
      · rw [b_big hi, if_neg (by omega), b_big hi]
    · rw [if_neg (fun q => hj q.1), gd_ne (fun q => hj q.symm)]
  refine ⟨by simpa using h1, fun j i hi => ?_, fun i c hc hi => ?_⟩
  · rw [key, if_neg (by omega)]
    exact h2 j i hi
  · rw [key]
    by_cases e : i < W.length
    · rw [List.getElem?_append_left e] at hc
      rw [if_neg (by omega)]
      exact h3 i c hc hi
    · rw [List.getElem?_append_right (by omega)] at hc
      have hz : i - W.length < 1 := (List.getElem?_eq_some_iff.mp hc).1
      have e2 : i = W.length := by omega
      subst e2
      rw [Nat.sub_self] at hc
      cases hc
      rw [if_pos ⟨rfl, rfl⟩]
theorem wOK_over {l : List Int32} {W : List Bool} {b : Bool} (hW : wOK l W) (hn : 3200 ≤ W.length) : wOK l (W ++ [b]) := by
  obtain ⟨h1, h2, h3⟩ := hW
  refine ⟨h1, h2, fun i c hc hi => ?_⟩
  rw [List.getElem?_append_left (by omega)] at hc
  exact h3 i c hc hi
theorem wOK_take {l : List Int32} {W : List Bool} (k : Nat) (hW : wOK l W) : wOK l (W.take k) := by
  obtain ⟨h1, h2, h3⟩ := hW
  refine ⟨h1, h2, fun i c hc hi => h3 i c ?_ hi⟩
  rw [List.getElem?_take] at hc
  split at hc
  · exact hc
  · cases hc
theorem m37 {h : db_H} {P : Option Value → db_H → Prop} {b : Int32} {l : List Int32} {W : List Bool} (hl : 18 < h.length) (hW : wOK l W) (hn : W.length < 2 ^ 30) (k : ∀ l', wOK l' (W ++ [bt b 0]) → P none (wr h l' (W.length + 1))) : db_Go 37 0 [.ref 17, .int b, .retAddr 0, .retAddr 0] [] (wr h l W.length) P := by
  have e17 := wr_17 (l := l) (n := W.length) hl
  have e18 := wr_18 (l := l) (n := W.length) hl
  have ens : ∀ c', ((wr h l W.length).set 18 c')[17]? = some (.inr (10, [.ref 18, .int (nI W.length)])) := fun c' => (hs_ne (by decide)).trans e17
  simp only [g_37_0, g_37_1, g_37_4, g_37_5, g_37_6, g_37_7, g_37_8, g_37_11, g_37_13, g_37_14, g_37_15, g_37_16, g_37_19, g_37_20, g_37_21, g_37_24, g_37_25, g_37_28, g_37_29, g_37_32, g_37_33, g_37_34, g_37_37, g_37_38, g_37_39, g_37_40, g_37_41, g_37_42, g_37_43, g_37_44, g_37_45, g_37_46, g_37_47, g_37_48, g_37_49, g_37_50, g_37_51, g_37_52, g_37_53, g_37_54, g_37_57, g_37_58, g_37_59, g_37_62, gs_ldi, gs_lda, gs_ldn, List.getElem?_cons_zero, List.getElem?_cons_succ, List.set_cons_zero, List.set_cons_succ, gs_gx, fx_int, fx_ref, fx_null, gs_px, gs_lx, gs_ax, gs_sx, ft_int, ft_ref, ft_b0, ft_b1, c1_int, c1_ref, List.length_cons, List.length_nil, Nat.reduceAdd, Nat.reduceLT, Nat.reduceLeDiff, true_and, and_true, true_or, or_true, not_false_eq_true, e17, e18, ens, n5_17, n5_18]
  have hlen := hW.1
  rw [nI_s3 (by omega), nI_a7 (by omega), hlen, nI_add, if_neg (nI_lt0 (by omega)), wr_n]
  by_cases hc : W.length < 3200
  · rw [if_neg (nI_ge (by omega) (by decide)), nI_clamp (by omega), wr_l]
    exact ⟨in_nI (by omega) (by decide), in_nI (by omega) (by decide), k _ (wOK_put hW hc)⟩
  · rw [if_pos (nI_le (by omega) (by omega))]
    exact k _ (wOK_over hW (by omega))
