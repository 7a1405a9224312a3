/-! branches and switches, the heap's instructions -/
theorem db_ofInt {lo : Int} (h0 : 0 ≤ lo) (h1 : lo < 2 ^ 31) : (Int32.ofInt lo).toInt = lo := Int32.toInt_ofInt_of_le (by omega) h1
theorem db_tsw_out {x : Int32} {d : Nat} : ∀ {ts : List Nat} {lo : Int}, 0 ≤ lo → lo + (ts.length : Int) < 2 ^ 31 → (x.toInt < lo ∨ lo + (ts.length : Int) - 1 < x.toInt) → db_tsw x lo ts d = d
  | [], _, _, _, _ => rfl
  | t :: ts, lo, h0, h1, h => by
    have hl : ((t :: ts).length : Int) = (ts.length : Int) + 1 := by simp
    rw [hl] at h1 h
    have hn : ¬ x = Int32.ofInt lo := by
      intro e
      have := db_ofInt h0 (by omega)
      rw [← e] at this
      omega
    rw [db_tsw, if_neg hn]
    exact db_tsw_out (by omega) (by omega) (by omega)
theorem db_tsw_in {x : Int32} {d : Nat} : ∀ {ts : List Nat} {lo : Int}, 0 ≤ lo → lo + (ts.length : Int) < 2 ^ 31 → lo ≤ x.toInt → x.toInt ≤ lo + (ts.length : Int) - 1 → ts[(x.toInt - lo).toNat]? = some (db_tsw x lo ts d)
  | [], lo, h0, h1, h2, h3 => by simp at h3; omega
  | t :: ts, lo, h0, h1, h2, h3 => by
    have hl : ((t :: ts).length : Int) = (ts.length : Int) + 1 := by simp
    rw [hl] at h1 h3
    by_cases e : x = Int32.ofInt lo
    · have := db_ofInt h0 (by omega)
      rw [← e] at this
      rw [db_tsw, if_pos e, this, Int.sub_self]
      rfl
    · have hne : ¬ x.toInt = lo := by
        intro q
        exact e (Int32.toInt_inj.mp (by rw [q, db_ofInt h0 (by omega)]))
      rw [db_tsw, if_neg e, show (x.toInt - lo).toNat = (x.toInt - (lo + 1)).toNat + 1 by omega, List.getElem?_cons_succ]
      exact db_tsw_in (by omega) (by omega) (by omega) (by omega)
section DBS2
variable {p : Program} {l : Launch} {e : Env} {R : Room} {s : State} {m : MethodId} {args : Array Value} {below : List Frame} {meth : Method} {c : Code} {H : Heap} {locs : List Loc} {cells slots : Nat} {Q : State → Prop}
variable {pc : Nat} {ls : Array Slot} {G : db_G} {T h h' : db_H} {y pc' : Nat} {L S L' S' : List Value}
set_option maxHeartbeats 4000000 in
theorem db_step2 {ai : db_I} (C : db_Cx G T p s m args meth c y) (hok : db_ok y pc ai = true) (hs : db_stp ai pc L S h = some (.inl (pc', L', S', h')))
    (hL : db_lr G L ls) (hLn : L.length = db_ml y) (hR : db_Rl G db_cl T h H) (hS : va_S (db_A G) s.heap H locs)
    (hi : match ai.1 with
      | .ifCond _ _ => True | .if_icmp _ _ => True | .tableswitch _ _ _ _ => True | .lookupswitch _ _ => True
      | _ => False)
    (kk : db_kk p l e R s m args below meth c cells slots Q G T y pc' L' S' h h') : W p l e R s m args below meth c H locs cells slots Q (F0 m pc ls (S.map (db_va G))) := by
  obtain ⟨i, n, a⟩ := ai
  obtain ⟨hd, hx⟩ := db_ok_inv hok
  obtain ⟨hX, hb, hml, hown, hts, hname, hWd⟩ := id C
  cases i <;> first | (exact hi.elim; done) | skip
  case ifCond k o =>
    obtain ⟨hn, hw⟩ := db_okx_ln (by intros; nofun) (by intros; nofun) hx
    subst hn
    simp only [db_stp, db_inc, db_neg, db_dup, db_pop, db_dp2, db_if1, db_if2, db_nul, db_nnl, db_tbs, db_lks, db_aln, db_nwa, db_irt, db_art, db_vrt] at hs
    split at hs
    · rename_i x S0
      cases k
      · refine lv_if_eq hX hb hd (of_decide_eq_true hw) (fun hc => ?_) (fun hc => ?_)
        · rw [if_pos (by simp [db_cp, hc])] at hs; cases hs; exact kk.same hL hLn hR hS
        · rw [if_neg (by simp [db_cp, hc])] at hs; cases hs; exact kk.same hL hLn hR hS
      · refine lv_if_ne hX hb hd (of_decide_eq_true hw) (fun hc => ?_) (fun hc => ?_)
        · rw [if_pos (by simp [db_cp, hc])] at hs; cases hs; exact kk.same hL hLn hR hS
        · rw [if_neg (by simp [db_cp, hc])] at hs; cases hs; exact kk.same hL hLn hR hS
      · refine lv_if_lt hX hb hd (of_decide_eq_true hw) (fun hc => ?_) (fun hc => ?_)
        · rw [if_pos (by simp [db_cp, hc])] at hs; cases hs; exact kk.same hL hLn hR hS
        · rw [if_neg (by simp [db_cp, hc])] at hs; cases hs; exact kk.same hL hLn hR hS
      · refine lv_if_ge hX hb hd (of_decide_eq_true hw) (fun hc => ?_) (fun hc => ?_)
        · rw [if_pos (by simp [db_cp, hc])] at hs; cases hs; exact kk.same hL hLn hR hS
        · rw [if_neg (by simp [db_cp, hc])] at hs; cases hs; exact kk.same hL hLn hR hS
      · refine lv_if_gt hX hb hd (of_decide_eq_true hw) (fun hc => ?_) (fun hc => ?_)
        · rw [if_pos (by simp [db_cp, hc])] at hs; cases hs; exact kk.same hL hLn hR hS
        · rw [if_neg (by simp [db_cp, hc])] at hs; cases hs; exact kk.same hL hLn hR hS
      · refine lv_if_le hX hb hd (of_decide_eq_true hw) (fun hc => ?_) (fun hc => ?_)
        · rw [if_pos (by simp [db_cp, hc])] at hs; cases hs; exact kk.same hL hLn hR hS
        · rw [if_neg (by simp [db_cp, hc])] at hs; cases hs; exact kk.same hL hLn hR hS
    · cases hs
  case if_icmp k o =>
    obtain ⟨hn, hw⟩ := db_okx_ln (by intros; nofun) (by intros; nofun) hx
    subst hn
    simp only [db_stp, db_inc, db_neg, db_dup, db_pop, db_dp2, db_if1, db_if2, db_nul, db_nnl, db_tbs, db_lks, db_aln, db_nwa, db_irt, db_art, db_vrt] at hs
    split at hs
    · rename_i yy xx S0
      cases k
      · refine lv_icmp_eq hX hb hd (of_decide_eq_true hw) (fun hc => ?_) (fun hc => ?_)
        · rw [if_pos (by simp [db_cp, hc])] at hs; cases hs; exact kk.same hL hLn hR hS
        · rw [if_neg (by simp [db_cp, hc])] at hs; cases hs; exact kk.same hL hLn hR hS
      · refine lv_icmp_ne hX hb hd (of_decide_eq_true hw) (fun hc => ?_) (fun hc => ?_)
        · rw [if_pos (by simp [db_cp, hc])] at hs; cases hs; exact kk.same hL hLn hR hS
        · rw [if_neg (by simp [db_cp, hc])] at hs; cases hs; exact kk.same hL hLn hR hS
      · refine lv_icmp_lt hX hb hd (of_decide_eq_true hw) (fun hc => ?_) (fun hc => ?_)
        · rw [if_pos (by simp [db_cp, hc])] at hs; cases hs; exact kk.same hL hLn hR hS
        · rw [if_neg (by simp [db_cp, hc])] at hs; cases hs; exact kk.same hL hLn hR hS
      · refine lv_icmp_ge hX hb hd (of_decide_eq_true hw) (fun hc => ?_) (fun hc => ?_)
        · rw [if_pos (by simp [db_cp, hc])] at hs; cases hs; exact kk.same hL hLn hR hS
        · rw [if_neg (by simp [db_cp, hc])] at hs; cases hs; exact kk.same hL hLn hR hS
      · refine lv_icmp_gt hX hb hd (of_decide_eq_true hw) (fun hc => ?_) (fun hc => ?_)
        · rw [if_pos (by simp [db_cp, hc])] at hs; cases hs; exact kk.same hL hLn hR hS
        · rw [if_neg (by simp [db_cp, hc])] at hs; cases hs; exact kk.same hL hLn hR hS
      · refine lv_icmp_le hX hb hd (of_decide_eq_true hw) (fun hc => ?_) (fun hc => ?_)
        · rw [if_pos (by simp [db_cp, hc])] at hs; cases hs; exact kk.same hL hLn hR hS
        · rw [if_neg (by simp [db_cp, hc])] at hs; cases hs; exact kk.same hL hLn hR hS
    · cases hs
  case tableswitch d lo hh offs =>
    simp only [db_stp, db_inc, db_neg, db_dup, db_pop, db_dp2, db_if1, db_if2, db_nul, db_nnl, db_tbs, db_lks, db_aln, db_nwa, db_irt, db_art, db_vrt] at hs
    split at hs
    · rename_i x S0
      cases hs
      simp only [db_okx, Bool.and_eq_true, decide_eq_true_eq] at hx
      obtain ⟨⟨⟨⟨h1, h2⟩, h3⟩, h4⟩, h5⟩ := hx
      have h0 : 0 ≤ lo := by omega
      have hb2 : lo + ((a.drop 1).length : Int) < 2 ^ 31 := by omega
      by_cases hc : x.toInt < lo ∨ hh < x.toInt
      · have e := db_tsw_out (x := x) (d := a.getD 0 0) h0 hb2 (by omega)
        refine lv_tableOut hX hb hd hc h1 ?_
        rw [e] at kk
        exact kk.same hL hLn hR hS
      · have e := db_tsw_in (x := x) (d := a.getD 0 0) h0 hb2 (by omega) (by omega)
        have e2 : (offs.toList.map (fun o => (pc : Int) + o))[(x.toInt - lo).toNat]? = some ((db_tsw x lo (a.drop 1) (a.getD 0 0) : Nat) : Int) := by
          rw [h2, List.getElem?_map, e]; rfl
        rw [List.getElem?_map] at e2
        cases ho : offs.toList[(x.toInt - lo).toNat]? with
        | none => rw [ho] at e2; cases e2
        | some off =>
          rw [ho] at e2
          exact lv_tableIn (off := off) hX hb hd (by omega) (by omega) (by rw [← Array.getElem?_toList]; exact ho) (Option.some.inj e2) (kk.same hL hLn hR hS)
    · cases hs
  case lookupswitch d ps =>
    simp only [db_stp, db_inc, db_neg, db_dup, db_pop, db_dp2, db_if1, db_if2, db_nul, db_nnl, db_tbs, db_lks, db_aln, db_nwa, db_irt, db_art, db_vrt] at hs
    split at hs
    · rename_i x S0
      cases hs
      simp only [db_okx, Bool.and_eq_true, decide_eq_true_eq] at hx
      obtain ⟨⟨h1, h2⟩, h3⟩ := hx
      have hp : (ps.toList.zip (ps.toList.drop 1)).all (fun (a, next) => a.1 < next.1) = true := by rw [h2]; rfl
      have ha : a.drop 1 = [a.getD 1 0, a.getD 2 0] := by
        match a, h3 with
        | [u, v, w], _ => rfl
      rw [h2, ha] at kk
      refine lv_lookup (off := Op.lookupswitch.offset ps.toList d x.toInt) (tgt := db_lsw x [(0, (a.getD 1 0 : Int) - pc), (1, (a.getD 2 0 : Int) - pc)] [a.getD 1 0, a.getD 2 0] (a.getD 0 0)) hX hb hd hp rfl ?_ (kk.same hL hLn hR hS)
      rw [h2]
      by_cases e0 : x = 0
      · subst e0
        rw [Op.lookupswitch.offset_cons, if_pos (by decide), db_lsw, if_pos (by decide)]
        omega
      · rw [lv_osw (k := 0) (a := 0) e0 (by decide), db_lsw, if_neg (show ¬ x = Int32.ofInt 0 from e0)]
        by_cases e1 : x = 1
        · subst e1
          rw [Op.lookupswitch.offset_cons, if_pos (by decide), db_lsw, if_pos (by decide)]
          omega
        · rw [lv_osw (k := 1) (a := 1) e1 (by decide), db_lsw, if_neg (show ¬ x = Int32.ofInt 1 from e1)]
          exact h1
    · cases hs
end DBS2
