/-! REPEATS: the steps; the class's find -/
def eo (C : List Nat) (p n : Nat) : Nat := C.foldl (fun e c => if c ≤ p then e else if e ≤ c then e else c) n
theorem eo_nI {p : Nat} (hp : p < 2 ^ 31) : ∀ (C : List Nat) (n : Nat), n < 2 ^ 31 → (∀ c ∈ C, c < 2 ^ 31) → (C.map nI).foldl (eoS (nI p)) (nI n) = nI (eo C p n)
  | [], n, _, _ => rfl
  | c :: C, n, hn, hC => by
    have hc : c < 2 ^ 31 := hC c List.mem_cons_self
    have e : eoS (nI p) (nI n) (nI c) = nI (if c ≤ p then n else if n ≤ c then n else c) := by
      unfold eoS
      by_cases h1 : c ≤ p
      · rw [if_pos h1, if_pos (nI_le h1 hp)]
      · rw [if_neg h1, if_neg (nI_ge (by omega) hc)]
        by_cases h2 : n ≤ c
        · rw [if_pos h2, if_pos (nI_le h2 hc)]
        · rw [if_neg h2, if_neg (nI_ge (by omega) hn)]
    rw [List.map_cons, List.foldl_cons, e]
    have hb : (if c ≤ p then n else if n ≤ c then n else c) < 2 ^ 31 := by
      split
      · exact hn
      · split
        · exact hn
        · exact hc
    exact eo_nI hp C _ hb (fun d hd => hC d (List.mem_cons_of_mem _ hd))
theorem eo_spec (p : Nat) : ∀ (C : List Nat) (n : Nat), eo C p n ≤ n ∧ (∀ c ∈ C, p < c → eo C p n ≤ c) ∧ (eo C p n = n ∨ (eo C p n ∈ C ∧ p < eo C p n))
  | [], n => ⟨Nat.le_refl n, fun c h => absurd h List.not_mem_nil, Or.inl rfl⟩
  | c :: C, n => by
    have e : eo (c :: C) p n = eo C p (if c ≤ p then n else if n ≤ c then n else c) := rfl
    rw [e]
    by_cases h1 : c ≤ p
    · rw [if_pos h1]
      obtain ⟨a1, a2, a3⟩ := eo_spec p C n
      refine ⟨a1, fun d hd hp => ?_, a3.imp id (fun q => ⟨List.mem_cons_of_mem _ q.1, q.2⟩)⟩
      rcases List.mem_cons.mp hd with rfl | hd
      · omega
      · exact a2 d hd hp
    · rw [if_neg h1]
      by_cases h2 : n ≤ c
      · rw [if_pos h2]
        obtain ⟨a1, a2, a3⟩ := eo_spec p C n
        refine ⟨a1, fun d hd hp => ?_, a3.imp id (fun q => ⟨List.mem_cons_of_mem _ q.1, q.2⟩)⟩
        rcases List.mem_cons.mp hd with rfl | hd
        · omega
        · exact a2 d hd hp
      · rw [if_neg h2]
        obtain ⟨a1, a2, a3⟩ := eo_spec p C c
        refine ⟨by omega, fun d hd hp => ?_, Or.inr ?_⟩
        · rcases List.mem_cons.mp hd with rfl | hd
          · exact a1
          · exact a2 d hd hp
        · rcases a3 with q | ⟨q1, q2⟩
          · rw [q]
            exact ⟨List.mem_cons_self, by omega⟩
          · exact ⟨List.mem_cons_of_mem _ q1, q2⟩
theorem eo_gt {C : List Nat} {p n : Nat} (h : p < n) : p < eo C p n := by
  rcases (eo_spec p C n).2.2 with q | q
  · omega
  · exact q.2
/-- within a BLOCK the end stays -/
theorem eo_same {C : List Nat} {p q n : Nat} (h1 : p ≤ q) (h2 : q < eo C p n) : eo C q n = eo C p n := by
  obtain ⟨a1, a2, a3⟩ := eo_spec p C n
  obtain ⟨b1, b2, b3⟩ := eo_spec q C n
  have h3 : eo C q n ≤ eo C p n := by
    rcases a3 with z | ⟨z1, z2⟩
    · omega
    · exact b2 _ z1 h2
  have h4 : eo C p n ≤ eo C q n := by
    rcases b3 with z | ⟨z1, z2⟩
    · omega
    · exact a2 _ z1 (by omega)
  omega
def mst (C : List Nat) (n p : Nat) : Nat := min 258 (eo C p n - p)
def stF (l : List Int32) (C : List Nat) (n : Nat) : Nat → Nat → List (Nat × Nat × Int32)
  | 0, _ => []
  | f + 1, p => if p < n then (p, stpLV l p (mst C n p)) :: stF l C n f (p + (stpLV l p (mst C n p)).1) else []
/-- the steps of DATA (the first n of l) with CUTS C -/
def steps (l : List Int32) (C : List Nat) (n : Nat) : List (Nat × Nat × Int32) := stF l C n n 0
def stOK (pl ln vl : List Int32) (s : List (Nat × Nat × Int32)) : Prop := pl.length = 300 ∧ ln.length = 300 ∧ vl.length = 300 ∧ ∀ (i : Nat) (t : Nat × Nat × Int32), s[i]? = some t → pl.getD i 0 = nI t.1 ∧ ln.getD i 0 = nI t.2.1 ∧ vl.getD i 0 = t.2.2
theorem stOK_add {pl ln vl : List Int32} {s : List (Nat × Nat × Int32)} {t : Nat × Nat × Int32} (hs : stOK pl ln vl s) (hl : s.length < 300) : stOK (pl.set s.length (nI t.1)) (ln.set s.length (nI t.2.1)) (vl.set s.length t.2.2) (s ++ [t]) := by
  obtain ⟨h1, h2, h3, h4⟩ := hs
  refine ⟨by simpa using h1, by simpa using h2, by simpa using h3, fun i u hu => ?_⟩
  by_cases e : i < s.length
  · rw [List.getElem?_append_left e] at hu
    rw [gd_ne (by omega), gd_ne (by omega), gd_ne (by omega)]
    exact h4 i u hu
  · rw [List.getElem?_append_right (by omega)] at hu
    have hz : i - s.length < 1 := (List.getElem?_eq_some_iff.mp hu).1
    have e2 : i = s.length := by omega
    subst e2
    rw [Nat.sub_self] at hu
    cases hu
    rw [gd_self (by omega), gd_self (by omega), gd_self (by omega)]
    exact ⟨rfl, rfl, rfl⟩
/-- the class's Repeats: object 12, rows 13, 14, 15 -/
def rs (h : db_H) (pl ln vl : List Int32) (a b c : Int32) : db_H := rp (((h.set 13 (.inl (0, pl))).set 14 (.inl (0, ln))).set 15 (.inl (0, vl))) a b c
section FI
variable {h : db_H} {P : Option Value → db_H → Prop} {l cr : List Int32} {pl ln vl : List Int32} {a b c : Int32} {n : Nat} {C : List Nat}
theorem rs_12 (hl : 15 < h.length) : (rs h pl ln vl a b c)[12]? = some (.inr (9, [.ref 13, .ref 14, .ref 15, .int a, .int b, .int c])) := rp_12 (by simp; omega)
theorem rs_13 (hl : 15 < h.length) : (rs h pl ln vl a b c)[13]? = some (.inl (0, pl)) := (rp_ne (by decide)).trans ((hs_ne (by decide)).trans ((hs_ne (by decide)).trans (hs_at (by omega))))
theorem rs_14 (hl : 15 < h.length) : (rs h pl ln vl a b c)[14]? = some (.inl (0, ln)) := (rp_ne (by decide)).trans ((hs_ne (by decide)).trans (hs_at (by simp; omega)))
theorem rs_15 (hl : 15 < h.length) : (rs h pl ln vl a b c)[15]? = some (.inl (0, vl)) := (rp_ne (by decide)).trans (hs_at (by simp; omega))
theorem rs_ne {k : Nat} (h1 : k < 12 ∨ 15 < k) : (rs h pl ln vl a b c)[k]? = h[k]? := (rp_ne (by omega)).trans ((hs_ne (by omega)).trans ((hs_ne (by omega)).trans (hs_ne (by omega))))
theorem rs_s12 {a' b' c' : Int32} : (rs h pl ln vl a b c).set 12 (.inr (9, [.ref 13, .ref 14, .ref 15, .int a', .int b', .int c'])) = rs h pl ln vl a' b' c' := rp_rp
theorem rs_s13 {x : List Int32} : (rs h pl ln vl a b c).set 13 (.inl (0, x)) = rs h x ln vl a b c := by
  unfold rs rp
  rw [hs_comm (o := 12) (r := 13) (by decide), hs_comm (o := 15) (r := 13) (by decide), hs_comm (o := 14) (r := 13) (by decide), hs_over]
theorem rs_s14 {x : List Int32} : (rs h pl ln vl a b c).set 14 (.inl (0, x)) = rs h pl x vl a b c := by
  unfold rs rp
  rw [hs_comm (o := 12) (r := 14) (by decide), hs_comm (o := 15) (r := 14) (by decide), hs_over]
theorem rs_s15 {x : List Int32} : (rs h pl ln vl a b c).set 15 (.inl (0, x)) = rs h pl ln x a b c := by
  unfold rs rp
  rw [hs_comm (o := 12) (r := 15) (by decide), hs_over]
theorem n5_13 : ¬ 13 < db_n := by decide
theorem n5_14 : ¬ 14 < db_n := by decide
theorem n5_15 : ¬ 15 < db_n := by decide
/-- what find needs of the cells: DATA's row and number, the CUTS -/
def fdI (h : db_H) (l cr : List Int32) (n : Nat) (C : List Nat) : Prop := 15 < h.length ∧ h[6]? = some (.inr (1, [.ref 7, .int (nI n)])) ∧ h[7]? = some (.inl (0, l)) ∧ l.length = 300 ∧ n ≤ 300 ∧ h[10]? = some (.inr (3, [.ref 11, .int (nI C.length)])) ∧ h[11]? = some (.inl (0, cr)) ∧ cr.length = 2 ∧ cr.take C.length = C.map nI ∧ C.length ≤ 2 ∧ ∀ x ∈ C, x < 300
theorem m30_body (I : fdI h l cr n C) {p e i : Nat} {x : Value} (hp : p < n) (he : e = eo C p n) (hi : i ≤ p) (hpl : pl.length = 300) (hln : ln.length = 300) (hvl : vl.length = 300)
    (k : ∀ b' c', db_Go 30 13 [.ref 12, .ref 6, .ref 10, .int (nI (p + (stpLV l p (mst C n p)).1)), .int (nI e), .int (nI (i + 1))] [] (rs h (pl.set i (nI p)) (ln.set i (nI (stpLV l p (mst C n p)).1)) (vl.set i (stpLV l p (mst C n p)).2) (nI (i + 1)) b' c') P) :
    db_Go 30 46 [.ref 12, .ref 6, .ref 10, .int (nI p), .int (nI e), .int (nI i)] [] (rs h pl ln vl (nI i) b c) P := by
  obtain ⟨hlen, h6, h7, hl, hn, h10, h11, hcr, hC, hC2, hCb⟩ := I
  have hee := (eo_spec p C n).1
  have heg := eo_gt (C := C) hp
  have e12 : ∀ pl ln vl a b c, (rs h pl ln vl a b c)[12]? = some (.inr (9, [.ref 13, .ref 14, .ref 15, .int a, .int b, .int c])) := fun _ _ _ _ _ _ => rs_12 hlen
  have e13 : ∀ pl ln vl a b c, (rs h pl ln vl a b c)[13]? = some (.inl (0, pl)) := fun _ _ _ _ _ _ => rs_13 hlen
  have e14 : ∀ pl ln vl a b c, (rs h pl ln vl a b c)[14]? = some (.inl (0, ln)) := fun _ _ _ _ _ _ => rs_14 hlen
  have e15 : ∀ pl ln vl a b c, (rs h pl ln vl a b c)[15]? = some (.inl (0, vl)) := fun _ _ _ _ _ _ => rs_15 hlen
  have e6 : ∀ pl ln vl a b c, (rs h pl ln vl a b c)[6]? = some (.inr (1, [.ref 7, .int (nI n)])) := fun _ _ _ _ _ _ => (rs_ne (by decide)).trans h6
  have e7 : ∀ pl ln vl a b c, (rs h pl ln vl a b c)[7]? = some (.inl (0, l)) := fun _ _ _ _ _ _ => (rs_ne (by decide)).trans h7
  simp only [g_30_0, g_30_1, g_30_2, g_30_5, g_30_6, g_30_7, g_30_8, g_30_10, g_30_11, g_30_15, g_30_18, g_30_21, g_30_22, g_30_26, g_30_29, g_30_30, g_30_32, g_30_35, g_30_36, g_30_37, g_30_38, g_30_44, g_30_46, g_30_47, g_30_48, g_30_49, g_30_52, g_30_54, g_30_55, g_30_56, g_30_62, g_30_63, g_30_66, g_30_68, g_30_69, g_30_70, g_30_71, g_30_74, g_30_76, g_30_77, g_30_80, g_30_81, g_30_82, g_30_85, g_30_87, g_30_88, g_30_91, g_30_92, g_30_95, g_30_96, g_30_100, g_30_103, g_30_104, g_30_107, g_30_108, g_30_109, g_30_111, g_30_112, g_30_113, g_30_116, g_30_117, g_30_118, g_30_121, g_30_122, g_30_123, g_30_126, g_30_129, gs_nx, db_inx, gs_ldi, gs_lda, gs_ldn, List.getElem?_cons_zero, List.getElem?_cons_succ, List.set_cons_zero, List.set_cons_succ, gs_gx, fx_int, fx_ref, fx_null, gs_px, gs_lx, gs_ax, gs_sx, ft_int, ft_ref, ft_b0, ft_b1, c1_int, c1_ref, List.length_cons, List.length_nil, Nat.reduceAdd, Nat.reduceLT, Nat.reduceLeDiff, true_and, and_true, true_or, or_true, not_false_eq_true, Option.toList_some, Option.toList_none, List.nil_append, List.singleton_append, List.cons_append]
  have em : (if nI e - nI p < nI 258 then nI e - nI p else nI 258) = nI (mst C n p) := by
    rw [pk_sub (by omega)]
    unfold mst
    rw [← he]
    by_cases hc : e - p < 258
    · rw [if_pos (nI_lt hc (by decide)), Nat.min_eq_right (by omega)]
    · rw [if_neg (nI_nlt (by omega) (by omega)), Nat.min_eq_left (by omega)]
  rw [em]
  have hm1 : 1 ≤ mst C n p := by unfold mst; omega
  have hm2 : p + mst C n p ≤ l.length := by unfold mst; omega
  refine c_30_59 (by decide) n5_12 (e12 _ _ _ _ _ _) ?_
  refine m32 (cn := nI n) (by simp; omega) ((hs_ne (by decide)).trans ((hs_ne (by decide)).trans ((hs_ne (by decide)).trans h6))) ((hs_ne (by decide)).trans ((hs_ne (by decide)).trans ((hs_ne (by decide)).trans h7))) (by omega) hm2 ?_
  obtain ⟨s1, s2, s3⟩ := cs_0 l p (mst C n p)
  have hle := stpLV_le l p (mst C n p) hm1
  have hcap : (stpLV l p (mst C n p)).1 < 2 ^ 31 := by omega
  generalize hq : cs l p (mst C n p) p (2, 1, 0) = q at s1 s2 s3
  show db_Go 30 62 _ _ (rs h pl ln vl (nI i) (nI q.2.1) (nI q.2.2)) P
  simp only [g_30_0, g_30_1, g_30_2, g_30_5, g_30_6, g_30_7, g_30_8, g_30_10, g_30_11, g_30_15, g_30_18, g_30_21, g_30_22, g_30_26, g_30_29, g_30_30, g_30_32, g_30_35, g_30_36, g_30_37, g_30_38, g_30_44, g_30_46, g_30_47, g_30_48, g_30_49, g_30_52, g_30_54, g_30_55, g_30_56, g_30_62, g_30_63, g_30_66, g_30_68, g_30_69, g_30_70, g_30_71, g_30_74, g_30_76, g_30_77, g_30_80, g_30_81, g_30_82, g_30_85, g_30_87, g_30_88, g_30_91, g_30_92, g_30_95, g_30_96, g_30_100, g_30_103, g_30_104, g_30_107, g_30_108, g_30_109, g_30_111, g_30_112, g_30_113, g_30_116, g_30_117, g_30_118, g_30_121, g_30_122, g_30_123, g_30_126, g_30_129, gs_nx, db_inx, gs_ldi, gs_lda, gs_ldn, List.getElem?_cons_zero, List.getElem?_cons_succ, List.set_cons_zero, List.set_cons_succ, gs_gx, fx_int, fx_ref, fx_null, gs_px, gs_lx, gs_ax, gs_sx, ft_int, ft_ref, ft_b0, ft_b1, c1_int, c1_ref, List.length_cons, List.length_nil, Nat.reduceAdd, Nat.reduceLT, Nat.reduceLeDiff, true_and, and_true, true_or, or_true, not_false_eq_true, Option.toList_some, Option.toList_none, List.nil_append, List.singleton_append, List.cons_append, e12, e13, e14, e15, e6, e7, n5_12, n5_13, n5_14, n5_15, rs_s12, rs_s13, rs_s14, rs_s15]
  rw [nI_clamp (by omega), hpl, hln]
  refine ⟨in_nI (by omega) (by decide), in_nI (by omega) (by decide), ?_⟩
  by_cases h1 : q.2.1 = 1
  · rw [if_neg (not_not_intro (show nI q.2.1 = nI 1 by rw [h1]))]
    refine c_30_97 (by simp) n5_6 (e6 _ _ _ _ _ _) ?_
    refine m26 n5_6 (e6 _ _ _ _ _ _) (e7 _ _ _ _ _ _) (by omega) (by omega) ?_
    rw [if_pos (in_nI hp (by omega)), nI_clamp (by omega)]
    simp only [g_30_0, g_30_1, g_30_2, g_30_5, g_30_6, g_30_7, g_30_8, g_30_10, g_30_11, g_30_15, g_30_18, g_30_21, g_30_22, g_30_26, g_30_29, g_30_30, g_30_32, g_30_35, g_30_36, g_30_37, g_30_38, g_30_44, g_30_46, g_30_47, g_30_48, g_30_49, g_30_52, g_30_54, g_30_55, g_30_56, g_30_62, g_30_63, g_30_66, g_30_68, g_30_69, g_30_70, g_30_71, g_30_74, g_30_76, g_30_77, g_30_80, g_30_81, g_30_82, g_30_85, g_30_87, g_30_88, g_30_91, g_30_92, g_30_95, g_30_96, g_30_100, g_30_103, g_30_104, g_30_107, g_30_108, g_30_109, g_30_111, g_30_112, g_30_113, g_30_116, g_30_117, g_30_118, g_30_121, g_30_122, g_30_123, g_30_126, g_30_129, gs_nx, db_inx, gs_ldi, gs_lda, gs_ldn, List.getElem?_cons_zero, List.getElem?_cons_succ, List.set_cons_zero, List.set_cons_succ, gs_gx, fx_int, fx_ref, fx_null, gs_px, gs_lx, gs_ax, gs_sx, ft_int, ft_ref, ft_b0, ft_b1, c1_int, c1_ref, List.length_cons, List.length_nil, Nat.reduceAdd, Nat.reduceLT, Nat.reduceLeDiff, true_and, and_true, true_or, or_true, not_false_eq_true, Option.toList_some, Option.toList_none, List.nil_append, List.singleton_append, List.cons_append, e12, e13, e14, e15, e6, e7, n5_12, n5_13, n5_14, n5_15, rs_s12, rs_s13, rs_s14, rs_s15]
    rw [nI_clamp (by omega), hvl, nI_add, nI_add]
    refine ⟨in_nI (by omega) (by decide), ?_⟩
    have := k (nI q.2.1) (nI q.2.2)
    rw [s2 h1, ← s1] at this
    exact this
  · rw [if_pos (fun z => h1 ((nI_eq (by omega) (by decide)).mp z)), hvl, nI_add, nI_add]
    refine ⟨in_nI (by omega) (by decide), ?_⟩
    have := k (nI q.2.1) (nI q.2.2)
    rw [s3 h1, ← s1] at this
    exact this
theorem m30_loop (I : fdI h l cr n C) : ∀ (f p e : Nat) (pre : List (Nat × Nat × Int32)) (pl ln vl : List Int32) (b c : Int32), n - p ≤ f → pre.length ≤ p → p ≤ n → e ≤ n → stOK pl ln vl pre → (p < e → e = eo C p n) →
    (∀ pl' ln' vl' b' c', stOK pl' ln' vl' (pre ++ stF l C n f p) → P none (rs h pl' ln' vl' (nI (pre ++ stF l C n f p).length) b' c')) → db_Go 30 13 [.ref 12, .ref 6, .ref 10, .int (nI p), .int (nI e), .int (nI pre.length)] [] (rs h pl ln vl (nI pre.length) b c) P := by
  intro f
  induction f with
  | zero =>
    intro p e pre pl ln vl b c hf hi hp he hs hpe k
    obtain ⟨hlen, h6, h7, hl, hn, h10, h11, hcr, hC, hC2, hCb⟩ := id I
    have e6 : (rs h pl ln vl (nI pre.length) b c)[6]? = some (.inr (1, [.ref 7, .int (nI n)])) := (rs_ne (by decide)).trans h6
    have e7 : (rs h pl ln vl (nI pre.length) b c)[7]? = some (.inl (0, l)) := (rs_ne (by decide)).trans h7
    have hend : P none (rs h pl ln vl (nI pre.length) b c) := by
      have := k pl ln vl b c (by simpa [stF] using hs)
      simpa [stF] using this
    rw [g_30_13]
    simp only [g_30_0, g_30_1, g_30_2, g_30_5, g_30_6, g_30_7, g_30_8, g_30_10, g_30_11, g_30_15, g_30_18, g_30_21, g_30_22, g_30_26, g_30_29, g_30_30, g_30_32, g_30_35, g_30_36, g_30_37, g_30_38, g_30_44, g_30_46, g_30_47, g_30_48, g_30_49, g_30_52, g_30_54, g_30_55, g_30_56, g_30_62, g_30_63, g_30_66, g_30_68, g_30_69, g_30_70, g_30_71, g_30_74, g_30_76, g_30_77, g_30_80, g_30_81, g_30_82, g_30_85, g_30_87, g_30_88, g_30_91, g_30_92, g_30_95, g_30_96, g_30_100, g_30_103, g_30_104, g_30_107, g_30_108, g_30_109, g_30_111, g_30_112, g_30_113, g_30_116, g_30_117, g_30_118, g_30_121, g_30_122, g_30_123, g_30_126, g_30_129, gs_nx, db_inx, gs_ldi, gs_lda, gs_ldn, List.getElem?_cons_zero, List.getElem?_cons_succ, List.set_cons_zero, List.set_cons_succ, gs_gx, fx_int, fx_ref, fx_null, gs_px, gs_lx, gs_ax, gs_sx, ft_int, ft_ref, ft_b0, ft_b1, c1_int, c1_ref, List.length_cons, List.length_nil, Nat.reduceAdd, Nat.reduceLT, Nat.reduceLeDiff, true_and, and_true, true_or, or_true, not_false_eq_true, Option.toList_some, Option.toList_none, List.nil_append, List.singleton_append, List.cons_append]
    by_cases hc : nI 300 ≤ nI pre.length
    · rw [if_pos hc]
      exact hend
    · rw [if_neg hc]
      refine c_30_23 (by simp) n5_6 e6 ?_
      refine m27 n5_6 e6 e7 (by omega) (by omega) ?_
      have e : db_in (nI p) n = false := by
        simp [db_in, nI_clamp (show p < 2 ^ 31 by omega)]
        omega
      rw [e]
      simp only [g_30_0, g_30_1, g_30_2, g_30_5, g_30_6, g_30_7, g_30_8, g_30_10, g_30_11, g_30_15, g_30_18, g_30_21, g_30_22, g_30_26, g_30_29, g_30_30, g_30_32, g_30_35, g_30_36, g_30_37, g_30_38, g_30_44, g_30_47, g_30_48, g_30_49, g_30_52, g_30_54, g_30_55, g_30_56, g_30_62, g_30_63, g_30_66, g_30_68, g_30_69, g_30_70, g_30_71, g_30_74, g_30_76, g_30_77, g_30_80, g_30_81, g_30_82, g_30_85, g_30_87, g_30_88, g_30_91, g_30_92, g_30_95, g_30_96, g_30_100, g_30_103, g_30_104, g_30_107, g_30_108, g_30_109, g_30_111, g_30_112, g_30_113, g_30_116, g_30_117, g_30_118, g_30_121, g_30_122, g_30_123, g_30_126, g_30_129, gs_nx, db_inx, gs_ldi, gs_lda, gs_ldn, List.getElem?_cons_zero, List.getElem?_cons_succ, List.set_cons_zero, List.set_cons_succ, gs_gx, fx_int, fx_ref, fx_null, gs_px, gs_lx, gs_ax, gs_sx, ft_int, ft_ref, ft_b0, ft_b1, c1_int, c1_ref, List.length_cons, List.length_nil, Nat.reduceAdd, Nat.reduceLT, Nat.reduceLeDiff, true_and, and_true, true_or, or_true, not_false_eq_true, Option.toList_some, Option.toList_none, List.nil_append, List.singleton_append, List.cons_append]
      exact hend
  | succ f ih =>
    intro p e pre pl ln vl b c hf hi hp he hs hpe k
    obtain ⟨hlen, h6, h7, hl, hn, h10, h11, hcr, hC, hC2, hCb⟩ := id I
    have e6 : (rs h pl ln vl (nI pre.length) b c)[6]? = some (.inr (1, [.ref 7, .int (nI n)])) := (rs_ne (by decide)).trans h6
    have e7 : (rs h pl ln vl (nI pre.length) b c)[7]? = some (.inl (0, l)) := (rs_ne (by decide)).trans h7
    have e10 : (rs h pl ln vl (nI pre.length) b c)[10]? = some (.inr (3, [.ref 11, .int (nI C.length)])) := (rs_ne (by decide)).trans h10
    have e11 : (rs h pl ln vl (nI pre.length) b c)[11]? = some (.inl (0, cr)) := (rs_ne (by decide)).trans h11
    rw [g_30_13]
    simp only [g_30_0, g_30_1, g_30_2, g_30_5, g_30_6, g_30_7, g_30_8, g_30_10, g_30_11, g_30_15, g_30_18, g_30_21, g_30_22, g_30_26, g_30_29, g_30_30, g_30_32, g_30_35, g_30_36, g_30_37, g_30_38, g_30_44, g_30_46, g_30_47, g_30_48, g_30_49, g_30_52, g_30_54, g_30_55, g_30_56, g_30_62, g_30_63, g_30_66, g_30_68, g_30_69, g_30_70, g_30_71, g_30_74, g_30_76, g_30_77, g_30_80, g_30_81, g_30_82, g_30_85, g_30_87, g_30_88, g_30_91, g_30_92, g_30_95, g_30_96, g_30_100, g_30_103, g_30_104, g_30_107, g_30_108, g_30_109, g_30_111, g_30_112, g_30_113, g_30_116, g_30_117, g_30_118, g_30_121, g_30_122, g_30_123, g_30_126, g_30_129, gs_nx, db_inx, gs_ldi, gs_lda, gs_ldn, List.getElem?_cons_zero, List.getElem?_cons_succ, List.set_cons_zero, List.set_cons_succ, gs_gx, fx_int, fx_ref, fx_null, gs_px, gs_lx, gs_ax, gs_sx, ft_int, ft_ref, ft_b0, ft_b1, c1_int, c1_ref, List.length_cons, List.length_nil, Nat.reduceAdd, Nat.reduceLT, Nat.reduceLeDiff, true_and, and_true, true_or, or_true, not_false_eq_true, Option.toList_some, Option.toList_none, List.nil_append, List.singleton_append, List.cons_append]
    by_cases hpn : p < n
    · rw [stF, if_pos hpn] at k
      have heg := eo_gt (C := C) hpn
      have hee := (eo_spec p C n).1
      have hm1 : 1 ≤ mst C n p := by unfold mst; omega
      have hm2 : mst C n p ≤ eo C p n - p := by unfold mst; omega
      have hle := stpLV_le l p (mst C n p) hm1
      rw [if_neg (nI_ge (by omega) (by decide))]
      refine c_30_23 (by simp) n5_6 e6 ?_
      refine m27 n5_6 e6 e7 (by omega) (by omega) ?_
      rw [if_pos (in_nI hpn (by omega))]
      have body : ∀ e', e' = eo C p n → db_Go 30 46 [.ref 12, .ref 6, .ref 10, .int (nI p), .int (nI e'), .int (nI pre.length)] [] (rs h pl ln vl (nI pre.length) b c) P := by
        intro e' he'
        refine m30_body (x := .null) I hpn he' hi hs.1 hs.2.1 hs.2.2.1 (fun b' c' => ?_)
        have hl2 : (pre ++ [(p, stpLV l p (mst C n p))]).length = pre.length + 1 := by simp
        rw [← hl2]
        refine ih (p + (stpLV l p (mst C n p)).1) e' (pre ++ [(p, stpLV l p (mst C n p))]) _ _ _ b' c' (by omega) (by rw [hl2]; omega) (by omega) (by omega) (stOK_add (t := (p, stpLV l p (mst C n p))) hs (by omega)) (fun q => ?_) ?_
        · rw [he'] at q ⊢
          exact (eo_same (by omega) q).symm
        · intro pl' ln' vl' b2 c2 h2
          rw [List.append_assoc, List.singleton_append] at h2 ⊢
          exact k pl' ln' vl' b2 c2 h2
      simp only [g_30_0, g_30_1, g_30_2, g_30_5, g_30_6, g_30_7, g_30_8, g_30_10, g_30_11, g_30_15, g_30_18, g_30_21, g_30_22, g_30_26, g_30_29, g_30_30, g_30_32, g_30_35, g_30_36, g_30_37, g_30_38, g_30_44, g_30_47, g_30_48, g_30_49, g_30_52, g_30_54, g_30_55, g_30_56, g_30_62, g_30_63, g_30_66, g_30_68, g_30_69, g_30_70, g_30_71, g_30_74, g_30_76, g_30_77, g_30_80, g_30_81, g_30_82, g_30_85, g_30_87, g_30_88, g_30_91, g_30_92, g_30_95, g_30_96, g_30_100, g_30_103, g_30_104, g_30_107, g_30_108, g_30_109, g_30_111, g_30_112, g_30_113, g_30_116, g_30_117, g_30_118, g_30_121, g_30_122, g_30_123, g_30_126, g_30_129, gs_nx, db_inx, gs_ldi, gs_lda, gs_ldn, List.getElem?_cons_zero, List.getElem?_cons_succ, List.set_cons_zero, List.set_cons_succ, gs_gx, fx_int, fx_ref, fx_null, gs_px, gs_lx, gs_ax, gs_sx, ft_int, ft_ref, ft_b0, ft_b1, c1_int, c1_ref, List.length_cons, List.length_nil, Nat.reduceAdd, Nat.reduceLT, Nat.reduceLeDiff, true_and, and_true, true_or, or_true, not_false_eq_true, Option.toList_some, Option.toList_none, List.nil_append, List.singleton_append, List.cons_append, e6, n5_6]
      rw [if_neg (show ¬ nI 1 = nI 0 by decide)]
      by_cases hpe2 : p < e
      · rw [if_pos (nI_lt hpe2 (by omega))]
        exact body e (hpe hpe2)
      · rw [if_neg (nI_nlt (by omega) (by omega))]
        refine c_30_41 (by simp) n5_10 e10 ?_
        refine m31 e10 e11 (by omega) (by omega) ?_
        rw [hC, eo_nI (by omega) C n (by omega) (fun x hx => by have := hCb x hx; omega)]
        simp only [g_30_0, g_30_1, g_30_2, g_30_5, g_30_6, g_30_7, g_30_8, g_30_10, g_30_11, g_30_15, g_30_18, g_30_21, g_30_22, g_30_26, g_30_29, g_30_30, g_30_32, g_30_35, g_30_36, g_30_37, g_30_38, g_30_44, g_30_47, g_30_48, g_30_49, g_30_52, g_30_54, g_30_55, g_30_56, g_30_62, g_30_63, g_30_66, g_30_68, g_30_69, g_30_70, g_30_71, g_30_74, g_30_76, g_30_77, g_30_80, g_30_81, g_30_82, g_30_85, g_30_87, g_30_88, g_30_91, g_30_92, g_30_95, g_30_96, g_30_100, g_30_103, g_30_104, g_30_107, g_30_108, g_30_109, g_30_111, g_30_112, g_30_113, g_30_116, g_30_117, g_30_118, g_30_121, g_30_122, g_30_123, g_30_126, g_30_129, gs_nx, db_inx, gs_ldi, gs_lda, gs_ldn, List.getElem?_cons_zero, List.getElem?_cons_succ, List.set_cons_zero, List.set_cons_succ, gs_gx, fx_int, fx_ref, fx_null, gs_px, gs_lx, gs_ax, gs_sx, ft_int, ft_ref, ft_b0, ft_b1, c1_int, c1_ref, List.length_cons, List.length_nil, Nat.reduceAdd, Nat.reduceLT, Nat.reduceLeDiff, true_and, and_true, true_or, or_true, not_false_eq_true, Option.toList_some, Option.toList_none, List.nil_append, List.singleton_append, List.cons_append]
        exact body (eo C p n) rfl
    · have hpn2 : p = n := by omega
      rw [stF, if_neg hpn, List.append_nil] at k
      have hend : P none (rs h pl ln vl (nI pre.length) b c) := k pl ln vl b c hs
      by_cases hc : nI 300 ≤ nI pre.length
      · rw [if_pos hc]
        exact hend
      · rw [if_neg hc]
        refine c_30_23 (by simp) n5_6 e6 ?_
        refine m27 n5_6 e6 e7 (by omega) (by omega) ?_
        have e : db_in (nI p) n = false := by
          simp [db_in, nI_clamp (show p < 2 ^ 31 by omega)]
          omega
        rw [e]
        simp only [g_30_0, g_30_1, g_30_2, g_30_5, g_30_6, g_30_7, g_30_8, g_30_10, g_30_11, g_30_15, g_30_18, g_30_21, g_30_22, g_30_26, g_30_29, g_30_30, g_30_32, g_30_35, g_30_36, g_30_37, g_30_38, g_30_44, g_30_47, g_30_48, g_30_49, g_30_52, g_30_54, g_30_55, g_30_56, g_30_62, g_30_63, g_30_66, g_30_68, g_30_69, g_30_70, g_30_71, g_30_74, g_30_76, g_30_77, g_30_80, g_30_81, g_30_82, g_30_85, g_30_87, g_30_88, g_30_91, g_30_92, g_30_95, g_30_96, g_30_100, g_30_103, g_30_104, g_30_107, g_30_108, g_30_109, g_30_111, g_30_112, g_30_113, g_30_116, g_30_117, g_30_118, g_30_121, g_30_122, g_30_123, g_30_126, g_30_129, gs_nx, db_inx, gs_ldi, gs_lda, gs_ldn, List.getElem?_cons_zero, List.getElem?_cons_succ, List.set_cons_zero, List.set_cons_succ, gs_gx, fx_int, fx_ref, fx_null, gs_px, gs_lx, gs_ax, gs_sx, ft_int, ft_ref, ft_b0, ft_b1, c1_int, c1_ref, List.length_cons, List.length_nil, Nat.reduceAdd, Nat.reduceLT, Nat.reduceLeDiff, true_and, and_true, true_or, or_true, not_false_eq_true, Option.toList_some, Option.toList_none, List.nil_append, List.singleton_append, List.cons_append]
        exact hend
theorem stOK_nil {pl ln vl : List Int32} (h1 : pl.length = 300) (h2 : ln.length = 300) (h3 : vl.length = 300) : stOK pl ln vl [] := ⟨h1, h2, h3, fun i t ht => by simp at ht⟩
/-- find -/
theorem m30 (I : fdI h l cr n C) (h1 : pl.length = 300) (h2 : ln.length = 300) (h3 : vl.length = 300) (k : ∀ pl' ln' vl' b' c', stOK pl' ln' vl' (steps l C n) → P none (rs h pl' ln' vl' (nI (steps l C n).length) b' c')) : db_Go 30 0 [.ref 12, .ref 6, .ref 10, .retAddr 0, .retAddr 0, .retAddr 0] [] (rs h pl ln vl a b c) P := by
  have e12 : (rs h pl ln vl a b c)[12]? = some (.inr (9, [.ref 13, .ref 14, .ref 15, .int a, .int b, .int c])) := rs_12 I.1
  simp only [g_30_0, g_30_1, g_30_2, g_30_5, g_30_6, g_30_7, g_30_8, g_30_10, g_30_11, g_30_15, g_30_18, g_30_21, g_30_22, g_30_26, g_30_29, g_30_30, g_30_32, g_30_35, g_30_36, g_30_37, g_30_38, g_30_44, g_30_46, g_30_47, g_30_48, g_30_49, g_30_52, g_30_54, g_30_55, g_30_56, g_30_62, g_30_63, g_30_66, g_30_68, g_30_69, g_30_70, g_30_71, g_30_74, g_30_76, g_30_77, g_30_80, g_30_81, g_30_82, g_30_85, g_30_87, g_30_88, g_30_91, g_30_92, g_30_95, g_30_96, g_30_100, g_30_103, g_30_104, g_30_107, g_30_108, g_30_109, g_30_111, g_30_112, g_30_113, g_30_116, g_30_117, g_30_118, g_30_121, g_30_122, g_30_123, g_30_126, g_30_129, gs_nx, db_inx, gs_ldi, gs_lda, gs_ldn, List.getElem?_cons_zero, List.getElem?_cons_succ, List.set_cons_zero, List.set_cons_succ, gs_gx, fx_int, fx_ref, fx_null, gs_px, gs_lx, gs_ax, gs_sx, ft_int, ft_ref, ft_b0, ft_b1, c1_int, c1_ref, List.length_cons, List.length_nil, Nat.reduceAdd, Nat.reduceLT, Nat.reduceLeDiff, true_and, and_true, true_or, or_true, not_false_eq_true, Option.toList_some, Option.toList_none, List.nil_append, List.singleton_append, List.cons_append, e12, n5_12, rs_s12]
  exact m30_loop I n 0 0 [] pl ln vl b c (by omega) (by simp) (by omega) (by omega) (stOK_nil h1 h2 h3) (fun q => absurd q (by decide)) k
end FI
