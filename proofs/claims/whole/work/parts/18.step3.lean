/-! fields, arrays, new cells -/
def db_kl : Bool := db_cl.all (fun q => (List.range q.2.2).all (fun k => match parseFieldDescriptor (q.2.1 k).2.2.1 with
  | some t => decide (db_kt t ≤ 2)
  | none => false))
theorem db_kl_ok : db_kl = true := by decide +kernel
theorem db_kl_at {ci k N : Nat} {C : String} {T : u_T} {ty : FieldType} (h : db_cl[ci]? = some (C, T, N)) (hk : k < N) (ht : parseFieldDescriptor (T k).2.2.1 = some ty) : db_kt ty ≤ 2 := by
  have h1 := List.all_eq_true.mp db_kl_ok (C, T, N) (List.mem_of_getElem? h)
  have h2 := List.all_eq_true.mp h1 k (List.mem_range.mpr hk)
  simp only [ht] at h2
  exact of_decide_eq_true h2
theorem db_in_vp {i : Int32} {n : Nat} (h : db_in i n = true) : ¬ (i < 0 ∨ n ≤ i.toNatClampNeg) := by
  intro q
  rcases q with q | q <;> simp [db_in, q] at h
theorem db_rd {s : State} {H : Heap} {locs : List Loc} {G : db_G} {T h : db_H} {k t : Nat} {l : List Int32} (hWd : db_Wd G T s s.heap) (hS : va_S (db_A G) s.heap H locs) (hR : db_Rl G db_cl T h H) (hk : h[k]? = some (.inl (t, l))) :
    ∃ cell : Cell, H[db_ad G k]? = some cell ∧ s.isArrayOf cell (if t = 0 then .int else .boolean) ∧ cell.vm ≠ .unknown ∧ l.length ≤ cell.slots.size ∧ cell.slots.size.toInt32 = Int32.ofNat l.length ∧ ∀ j : Nat, j < l.length → cell.slots[j]? = some (.int (l.getD j 0)) := by
  by_cases hd : k < db_n
  · rw [hR.2.2.1 k hd] at hk
    obtain ⟨l2, e, ht⟩ := hWd.2.2.1 k _ hd hk
    cases e
    obtain ⟨cell, h1, h2, h3, h4, h5, h6, -⟩ := ht.kept (fun a h1 h2 => hS.2.1 a h1 h2)
    exact ⟨cell, by rw [db_ad, if_pos hd]; exact h1, h2, h3, h4, h5, h6⟩
  · have hat := hR.2.2.2 k _ (Nat.not_lt.mp hd) hk
    rw [db_ad_dyn hd]
    refine ⟨_, hat, ?_, fun q => (by cases q), ?_, ?_, fun j hj => ?_⟩
    · by_cases e : t = 0
      · subst e
        exact (hWd.1.2 0 _ rfl).1 _ _
      · rw [if_neg e, if_neg e]
        exact (hWd.1.2 1 _ rfl).1 _ _
    · show l.length ≤ (arrV _ _ _).slots.size
      rw [arrV_size]
      exact Nat.le_refl _
    · show (arrV _ _ _).slots.size.toInt32 = _
      rw [arrV_size]
    · show (arrV _ _ _).slots[j]? = _
      rw [arrV_read _ _ hj]
theorem db_updl {l : List Int32} {i : Nat} {x : Int32} (hi : i < l.length) : (fun j => Value.int ((l.set i x).getD j 0)) = updV (fun j => Value.int (l.getD j 0)) i (.int x) := by
  funext q
  by_cases hq : q = i
  · subst hq
    simp [updV, hi]
  · have hq2 : ¬ i = q := fun z => hq z.symm
    simp [updV, hq, hq2, List.getElem?_set]
theorem db_at_arr {G : db_G} {t a : Nat} {l : List Int32} {H : Heap} (h : H[a]? = some (arrV (if t = 0 then G.2.2.2.1 else G.2.2.2.2) l.length (fun j => .int (l.getD j 0)))) : va_at G.2.2.1 db_cl (a, db_en G (.inl (t, l))) H := h
section DBS3
variable {p : Program} {l : Launch} {e : Env} {R : Room} {s : State} {m : MethodId} {args : Array Value} {below : List Frame} {meth : Method} {c : Code} {H : Heap} {locs : List Loc} {cells slots : Nat} {Q : State → Prop}
variable {pc : Nat} {ls : Array Slot} {G : db_G} {T h h' : db_H} {y pc' : Nat} {L S L' S' : List Value}
theorem db_kk.set {k : Nat} {c' : db_C} (kk : db_kk p l e R s m args below meth c cells slots Q G T y pc' L' S' h (h.set k c')) {c0 : db_C} (hc : h[k]? = some c0) (hz : db_cz c' = db_cz c0) {H1 : Heap} {locs1 : List Loc} (hL : db_lr G L' ls) (hn : L'.length = db_ml y) (hR : db_Rl G db_cl T (h.set k c') H1) (hS : va_S (db_A G) s.heap H1 locs1) : W p l e R s m args below meth c H1 locs1 cells slots Q (F0 m pc' ls (S'.map (db_va G))) := by
  have q := kk ls H1 locs1 hL hn hR hS
  rw [List.length_set, db_sz_set hc hz, Nat.sub_self, Nat.sub_self] at q
  exact q
theorem db_kk.app {c' : db_C} (kk : db_kk p l e R s m args below meth c cells slots Q G T y pc' L' S' h (h ++ [c'])) {H1 : Heap} {locs1 : List Loc} {n : Nat} (hz : db_cz c' = n) (hL : db_lr G L' ls) (hn : L'.length = db_ml y) (hR : db_Rl G db_cl T (h ++ [c']) H1) (hS : va_S (db_A G) s.heap H1 locs1) : W p l e R s m args below meth c H1 locs1 (cells + 1) (slots + n) Q (F0 m pc' ls (S'.map (db_va G))) := by
  have q := kk ls H1 locs1 hL hn hR hS
  rw [List.length_append, db_sz_app, hz, List.length_singleton, Nat.add_sub_cancel_left, Nat.add_sub_cancel_left] at q
  exact q
theorem db_lnk {C : String} {T0 : u_T} {i k w : Nat} {a4 : Nat} (hts : ∀ w ∈ db_tb, w.before args s = true) (hWd : db_Wd G T s s.heap) (h : (a4 = 0 ∧ lw_tbl[w]? = some (.fieldLink C i (T0 k).1 (T0 k).2.1 (T0 k).2.2.1)) ∨ (¬ a4 = 0 ∧ lw_tbl[w]? = some (.fieldLinkNest C i (T0 k).1 (T0 k).2.1 (T0 k).2.2.1 "DeflateBlocks"))) :
    (a4 = 0 ∧ (Cond.fieldLink C i (T0 k).1 (T0 k).2.1 (T0 k).2.2.1).before args s = true) ∨ (¬ a4 = 0 ∧ ∃ host, (Cond.fieldLinkNest C i (T0 k).1 (T0 k).2.1 (T0 k).2.2.1 host).before args s = true) := by
  rcases h with ⟨h0, h1⟩ | ⟨h0, h1⟩
  · exact Or.inl ⟨h0, hts _ (db_in_tb h1 rfl)⟩
  · exact Or.inr ⟨h0, _, va_Nw.use rfl (hWd.2.1 _ (List.mem_of_getElem? h1) rfl)⟩
set_option maxHeartbeats 4000000 in
theorem db_step3 {ai : db_I} (C : db_Cx G T p s m args meth c y) (hok : db_ok y pc ai = true) (hs : db_stp ai pc L S h = some (.inl (pc', L', S', h')))
    (hL : db_lr G L ls) (hLn : L.length = db_ml y) (hR : db_Rl G db_cl T h H) (hS : va_S (db_A G) s.heap H locs)
    (hc1 : cells + (h'.length - h.length) ≤ R.cells) (hc2 : slots + (db_sz h' - db_sz h) ≤ R.slots)
    (hi : match ai.1 with
      | .getfield _ => True | .putfield _ => True | .getstatic _ => True | .arraylength => True | .iaload => True | .iastore => True | .baload => True | .bastore => True | .newarray _ => True | .new _ => True
      | _ => False)
    (kk : db_kk p l e R s m args below meth c cells slots Q G T y pc' L' S' h h') : W p l e R s m args below meth c H locs cells slots Q (F0 m pc ls (S.map (db_va G))) := by
  obtain ⟨i, n, a⟩ := ai
  obtain ⟨hd, hx⟩ := db_ok_inv hok
  obtain ⟨hX, hb, hml, hown, hts, hname, hWd⟩ := id C
  cases i <;> first | (exact hi.elim; done) | skip
  case getfield k =>
    obtain ⟨hn, hw⟩ := db_okx_ln (by intros; nofun) (by intros; nofun) hx
    subst hn
    obtain ⟨r, S0, fs, v, rfl, hk, hc, hv, h1, hr⟩ := db_get_inv hs
    cases hr
    obtain ⟨C1, T1, N1, hcl, hlt, hlk⟩ := db_okf_inv hw
    obtain ⟨hin, -, -, -, -⟩ := db_cls hcl
    have hat := hR.2.2.2 r _ (Nat.not_lt.mp hk) hc
    show W p l e R s m args below meth c H locs cells slots Q (F0 m pc ls (.ref (db_ad G r) :: S0.map (db_va G)))
    rw [db_ad_dyn hk]
    refine db_getf hX hb hts hin hown hWd.1 hat hcl _ hlt ?_ (v := db_va G v) (by rw [List.getElem?_map]; exact congrArg _ hv) hd (kk.same hL hLn hR hS)
    rcases db_lnk hts hWd hlk with ⟨-, q⟩ | ⟨-, q⟩
    · exact Or.inl q
    · exact Or.inr q
  case putfield k =>
    obtain ⟨hn, hw⟩ := db_okx_ln (by intros; nofun) (by intros; nofun) hx
    subst hn
    obtain ⟨r, S0, fs, v, rfl, hk, hc, hlen, hft, hr⟩ := db_put_inv hs
    cases hr
    have hw2 : (db_okf y k a && db_okp y a) = true := hw
    rw [Bool.and_eq_true] at hw2
    obtain ⟨C1, T1, N1, hcl, hlt, hlk⟩ := db_okf_inv hw2.1
    obtain ⟨ty, hty, hkt, hfin⟩ := db_okp_inv hw2.2 hcl
    obtain ⟨hin, ⟨ty0, hty0⟩, hnm, -, -⟩ := db_cls hcl
    have hat := hR.2.2.2 r _ (Nat.not_lt.mp hk) hc
    obtain ⟨hnar, hfit⟩ := db_fit (G := G) hkt hft
    show W p l e R s m args below meth c H locs cells slots Q (F0 m pc ls (db_va G v :: .ref (db_ad G r) :: S'.map (db_va G)))
    rw [db_ad_dyn hk]
    refine db_putf hX hb hts hin ty0 hty0 hnm hown hWd.1 hat hcl _ hlt ?_ hty hnar hfit (by rw [List.length_map]; exact hlen) hd (fun H1 j q1 q2 q3 => ?_)
    · rcases db_lnk hts hWd hlk with ⟨q0, q⟩ | ⟨q0, q⟩
      · by_cases hf : (T1 (a.getD 1 0)).2.2.2 = true
        · obtain ⟨-, f2, f3⟩ := hfin hf
          exact Or.inr (Or.inl ⟨hf, hname f2, f3, q⟩)
        · exact Or.inl ⟨by simpa using hf, q⟩
      · by_cases hf : (T1 (a.getD 1 0)).2.2.2 = true
        · exact absurd (hfin hf).1 q0
        · exact Or.inr (Or.inr ⟨by simpa using hf, q⟩)
    · refine kk.set hc (by simp [db_cz]) hL hLn (hR.set hk hc q2 q3 ?_) (db_S.put hS q2 q3 (Nat.le_add_right _ _))
      show va_at _ _ (_, Sum.inr (_, (fs.set _ v).map (db_va G))) _
      rw [List.map_set]
      exact q1
  case getstatic k =>
    obtain ⟨hn, hw⟩ := db_okx_ln (by intros; nofun) (by intros; nofun) hx
    subst hn
    cases hs
    have hw2 : db_oks y k a = true := hw
    unfold db_oks at hw2
    split at hw2
    · rename_i z hz
      rw [Bool.and_eq_true, decide_eq_true_eq] at hw2
      obtain ⟨hlt, hw3⟩ := hw2
      have hZ := hWd.2.2.2 _ z hz
      have e0 : db_ad G (a.getD 0 0) = G.2.1 (a.getD 0 0) := if_pos hlt
      have k0 := kk.same hL hLn hR hS
      have k1 : W p l e R s m args below meth c H locs cells slots Q (F0 m (pc + 3) ls (.ref (G.2.1 (a.getD 0 0)) :: S.map (db_va G))) := by
        rw [← e0]
        exact k0
      split at hw3
      · exact va_gets hX hb hZ hS hown (hts _ (db_in_tb (of_decide_eq_true hw3) rfl)) (fun _ h => h) hd k1
      · exact va_getsN hX hb hZ hS hown (va_Nw.use rfl (hWd.2.1 _ (List.mem_of_getElem? (of_decide_eq_true hw3)) rfl)) (fun _ h => h) hd k1
    · cases hw2
  case arraylength =>
    obtain ⟨hn, hw⟩ := db_okx_ln (by intros; nofun) (by intros; nofun) hx
    subst hn
    simp only [db_stp, db_inc, db_neg, db_dup, db_pop, db_dp2, db_if1, db_if2, db_nul, db_nnl, db_tbs, db_lks, db_aln, db_nwa, db_irt, db_art, db_vrt] at hs
    split at hs
    · rename_i r S0
      split at hs
      · rename_i t l0 hc
        cases hs
        obtain ⟨cell, e1, e2, e3, e4, e5, e6⟩ := db_rd hWd hS hR hc
        exact W.alen hX hb e1 e2 e5 rfl rfl hd (kk.same hL hLn hR hS)
      · cases hs
    · cases hs
  case iaload =>
    obtain ⟨hn, hw⟩ := db_okx_ln (by intros; nofun) (by intros; nofun) hx
    subst hn
    obtain ⟨j, r, S0, l0, rfl, hc, hin, hr⟩ := db_ald_inv hs
    cases hr
    obtain ⟨cell, e1, e2, e3, e4, e5, e6⟩ := db_rd hWd hS hR hc
    have hv := db_in_vp hin
    exact W.iald hX hb e1 e2 e3 (fun q => hv (q.elim Or.inl (fun z => Or.inr (Nat.le_trans e4 z)))) (e6 _ (Nat.not_le.mp fun q => hv (Or.inr q))) rfl rfl hd (kk.same hL hLn hR hS)
  case baload =>
    obtain ⟨hn, hw⟩ := db_okx_ln (by intros; nofun) (by intros; nofun) hx
    subst hn
    obtain ⟨j, r, S0, l0, rfl, hc, hin, hr⟩ := db_ald_inv hs
    cases hr
    obtain ⟨cell, e1, e2, e3, e4, e5, e6⟩ := db_rd hWd hS hR hc
    have hv := db_in_vp hin
    exact W.zald hX hb e1 e2 e3 (fun q => hv (q.elim Or.inl (fun z => Or.inr (Nat.le_trans e4 z)))) (e6 _ (Nat.not_le.mp fun q => hv (Or.inr q))) rfl rfl hd (kk.same hL hLn hR hS)
  case iastore =>
    obtain ⟨hn, hw⟩ := db_okx_ln (by intros; nofun) (by intros; nofun) hx
    subst hn
    obtain ⟨x, j, r, S0, l0, rfl, hk, hc, hin, hft, hr⟩ := db_ast_inv hs
    cases hr
    have hat : H[G.1 + (r - db_n)]? = some (arrV G.2.2.2.1 l0.length (fun j => .int (l0.getD j 0))) := hR.2.2.2 r _ (Nat.not_lt.mp hk) hc
    have hv := db_in_vp hin
    show W p l e R s m args below meth c H locs cells slots Q (F0 m pc ls (.int x :: .int j :: .ref (db_ad G r) :: S'.map (db_va G)))
    rw [db_ad_dyn hk]
    refine W.iast hX hb hat ((hWd.1.2 0 _ rfl).1 _ _) (fun q => by cases q) (by rw [arrV_size]; exact hv) rfl rfl hd fun H1 q1 q2 q3 => ?_
    refine kk.set hc (by simp [db_cz]) hL hLn (hR.set hk hc q2 q3 ?_) (db_S.put hS q2 q3 (Nat.le_add_right _ _))
    refine db_at_arr ?_
    rw [q1, arrV_store, List.length_set, db_updl (Nat.not_le.mp fun q => hv (Or.inr q))]
    rfl
  case bastore =>
    obtain ⟨hn, hw⟩ := db_okx_ln (by intros; nofun) (by intros; nofun) hx
    subst hn
    obtain ⟨x, j, r, S0, l0, rfl, hk, hc, hin, hft, hr⟩ := db_ast_inv hs
    cases hr
    have hat : H[G.1 + (r - db_n)]? = some (arrV G.2.2.2.2 l0.length (fun j => .int (l0.getD j 0))) := hR.2.2.2 r _ (Nat.not_lt.mp hk) hc
    have hv := db_in_vp hin
    have hnar : narrow .boolean (.int x) = .int x := (db_fit (G := G) (ty := .boolean) (kd := 1) rfl hft).1
    show W p l e R s m args below meth c H locs cells slots Q (F0 m pc ls (.int x :: .int j :: .ref (db_ad G r) :: S'.map (db_va G)))
    rw [db_ad_dyn hk]
    refine W.zast hX hb hat ((hWd.1.2 1 _ rfl).1 _ _) (fun q => by cases q) (by rw [arrV_size]; exact hv) rfl rfl hd fun H1 q1 q2 q3 => ?_
    refine kk.set hc (by simp [db_cz]) hL hLn (hR.set hk hc q2 q3 ?_) (db_S.put hS q2 q3 (Nat.le_add_right _ _))
    refine db_at_arr ?_
    rw [q1, hnar, arrV_store, List.length_set, db_updl (Nat.not_le.mp fun q => hv (Or.inr q))]
    rfl
  case newarray t =>
    obtain ⟨hn, hw⟩ := db_okx_ln (by intros; nofun) (by intros; nofun) hx
    subst hn
    have rep : ∀ (n : Nat), (fun j => Value.int ((List.replicate n (0 : Int32)).getD j 0)) = fun _ => .int 0 := by
      intro n
      funext j
      by_cases hj : j < n <;> simp [List.getElem?_replicate, hj]
    cases t <;> first | (cases hs; done) | skip
    case int =>
      obtain ⟨n, S0, rfl, hn0, hn1, hr⟩ := db_new_inv (t := 0) hs
      cases hr
      rw [List.length_append, List.length_singleton, Nat.add_sub_cancel_left] at hc1
      rw [db_sz_app, Nat.add_sub_cancel_left] at hc2
      have hcz : db_cz (.inl (0, List.replicate n.toNatClampNeg 0)) = n.toNatClampNeg := by simp [db_cz]
      rw [hcz] at hc2
      refine va_newaK (atype := .int) hX hb (hts _ db_x11) rfl hd rfl hn0 rfl (by show n.toNatClampNeg * 4 ≤ _; omega) hc1 hc2 rfl fun H1 cA q1 q2 q3 q4 q5 => ?_
      have hcA : cA = G.2.2.2.1 := by
        have q6 : s.vm.findClass ("[" ++ FieldType.int.toString) = some G.2.2.2.1 := (hWd.1.2 0 _ rfl).2
        exact Option.some.inj (q5.symm.trans q6)
      have k1 := kk.app hcz hL hLn (hR.push q2 q3 (by
        refine db_at_arr ?_
        rw [q1, hcA, List.length_replicate, rep]
        rfl)) (db_S.push hS q2 q3)
      show W p l e R s m args below meth c H1 locs (cells + 1) (slots + n.toNatClampNeg) Q (F0 m (pc + 2) ls (.ref H.size :: S0.map (db_va G)))
      rw [← hR.new]
      exact k1
    case boolean =>
      obtain ⟨n, S0, rfl, hn0, hn1, hr⟩ := db_new_inv (t := 1) hs
      cases hr
      rw [List.length_append, List.length_singleton, Nat.add_sub_cancel_left] at hc1
      rw [db_sz_app, Nat.add_sub_cancel_left] at hc2
      have hcz : db_cz (.inl (1, List.replicate n.toNatClampNeg 0)) = n.toNatClampNeg := by simp [db_cz]
      rw [hcz] at hc2
      refine va_newaK (atype := .boolean) hX hb (hts _ db_x12) rfl hd rfl hn0 rfl (by show n.toNatClampNeg * 1 ≤ _; omega) hc1 hc2 rfl fun H1 cA q1 q2 q3 q4 q5 => ?_
      have hcA : cA = G.2.2.2.2 := by
        have q6 : s.vm.findClass ("[" ++ FieldType.boolean.toString) = some G.2.2.2.2 := (hWd.1.2 1 _ rfl).2
        exact Option.some.inj (q5.symm.trans q6)
      have k1 := kk.app hcz hL hLn (hR.push q2 q3 (by
        refine db_at_arr ?_
        rw [q1, hcA, List.length_replicate, rep]
        rfl)) (db_S.push hS q2 q3)
      show W p l e R s m args below meth c H1 locs (cells + 1) (slots + n.toNatClampNeg) Q (F0 m (pc + 2) ls (.ref H.size :: S0.map (db_va G)))
      rw [← hR.new]
      exact k1
  case new k =>
    obtain ⟨hn, hw⟩ := db_okx_ln (by intros; nofun) (by intros; nofun) hx
    subst hn
    cases hs
    have hw2 : db_okn y k a = true := hw
    unfold db_okn at hw2
    split at hw2
    · rename_i C1 T1 N1 hcl
      rw [Bool.and_eq_true, decide_eq_true_eq, decide_eq_true_eq] at hw2
      obtain ⟨hlk, hkd⟩ := hw2
      obtain ⟨hin, ⟨ty0, hty0⟩, hnm, hins, hini⟩ := db_cls hcl
      rw [List.length_append, List.length_singleton, Nat.add_sub_cancel_left] at hc1
      rw [db_sz_app, Nat.add_sub_cancel_left] at hc2
      have hcz : db_cz (.inr (a.getD 0 0, db_df (a.drop 2))) = N1 := by
        show (db_df (a.drop 2)).length = N1
        rw [hkd]
        simp [db_df]
      have hc2' : slots + N1 ≤ R.slots := by
        rw [← hcz]
        exact hc2
      refine db_newo hX hb hts hin ty0 hty0 hown (hts _ (db_in_tb hlk rfl)) (hts _ hins) (hts _ hini) hWd.1 hcl (fs := (db_df (a.drop 2)).map (db_va G)) (fun j hj => ?_) hc1 hc2' hd fun H1 q1 q2 q3 => ?_
      · have ht := hty0 j hj
        have hk2 := db_kl_at hcl hj ht
        have e : (db_df (a.drop 2)).getD j .null = if db_kt (ty0 j) = 2 then .null else .int 0 := by
          rw [hkd]
          simp [db_df, hj, ht]
        have e2 : vp_V ((db_df (a.drop 2)).map (db_va G)) j = db_va G ((db_df (a.drop 2)).getD j .null) := by
          unfold vp_V
          rw [List.getD_eq_getElem?_getD, List.getD_eq_getElem?_getD, List.getElem?_map]
          cases (db_df (a.drop 2))[j]? <;> rfl
        rw [e2, e]
        cases hty : ty0 j <;> rw [hty] at hk2 <;> first | rfl | (simp [db_kt] at hk2)
      · have k1 := kk.app hcz hL hLn (hR.push q2 q3 q1) (db_S.push hS q2 q3)
        show W p l e R s m args below meth c H1 locs (cells + 1) (slots + N1) Q (F0 m (pc + 3) ls (.ref H.size :: S.map (db_va G)))
        rw [← hR.new]
        exact k1
    · cases hw2
end DBS3
