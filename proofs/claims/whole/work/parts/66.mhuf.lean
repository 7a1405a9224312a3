/-! joining by the least of all (model) = joining by two queues -/
theorem phi_ne {sy : Nat → Nat} {L n x y : Nat} (hn : ∀ x, x < L → sy x < n) (hi : ∀ x y, x < L → y < L → ¬ x = y → ¬ sy x = sy y) (h : ¬ x = y) : ¬ phi sy L n x = phi sy L n y := by
  unfold phi
  by_cases hx : x < L
  · have := hn x hx
    by_cases hy : y < L
    · rw [if_pos hx, if_pos hy]
      exact hi x y hx hy h
    · rw [if_pos hx, if_neg hy]
      omega
  · by_cases hy : y < L
    · have := hn y hy
      rw [if_neg hx, if_pos hy]
      omega
    · rw [if_neg hx, if_neg hy]
      omega
theorem phi_lt {sy : Nat → Nat} {L n x c : Nat} (hn : ∀ x, x < L → sy x < n) (hL : L ≤ c) (h : x < c) : phi sy L n x < n + (c - L) := by
  unfold phi
  by_cases hx : x < L
  · have := hn x hx
    rw [if_pos hx]
    omega
  · rw [if_neg hx]
    omega
theorem phi_c {sy : Nat → Nat} {L n c : Nat} (h : L ≤ c) : phi sy L n c = n + (c - L) := if_neg (by omega)
/-- the model's three rows against the state of the two queues -/
def MR (n L : Nat) (sy : Nat → Nat) (S : hS) (ns js ab : List Int32) : Prop :=
  (∀ x, x < S.2.2.2.2 → ns.getD (phi sy L n x) 0 = nI (S.1 x)) ∧
  (∀ x, alv L S.2.2.1 S.2.2.2.1 S.2.2.2.2 x → js.getD (phi sy L n x) 0 = nI 0) ∧
  (∀ k, k < n + (S.2.2.2.2 - L) → js.getD k 0 = nI 0 → ∃ x, alv L S.2.2.1 S.2.2.2.1 S.2.2.2.2 x ∧ phi sy L n x = k) ∧
  (∀ x, alv L S.2.2.1 S.2.2.2.1 S.2.2.2.2 x → ab.getD (phi sy L n x) 0 = -1) ∧
  (∀ x, x < S.2.2.2.2 → ¬ alv L S.2.2.1 S.2.2.2.1 S.2.2.2.2 x → ab.getD (phi sy L n x) 0 = nI (phi sy L n (S.2.1 x))) ∧
  (∀ k, k < n → (∀ r, r < L → ¬ sy r = k) → ab.getD k 0 = -1)
theorem MR_step {L T n j : Nat} {N0 sy : Nat → Nat} {S : hS} {ns js ab : List Int32} (hs : ∀ x y, x < y → y < L → N0 x < N0 y ∨ (N0 x = N0 y ∧ sy x < sy y)) (hn : ∀ x, x < L → sy x < n) (hi : ∀ x y, x < L → y < L → ¬ x = y → ¬ sy x = sy y) (H : HI L T N0 j S) (hj : j + 1 < L) (l1 : ns.length = 600) (l2 : js.length = 600) (l3 : ab.length = 600) (hn2 : n + j < 600) (M : MR n L sy S ns js ab) :
    ∃ a b, a < n + j ∧ b < n + j ∧ ¬ a = b ∧ js.getD a 0 = nI 0 ∧ js.getD b 0 = nI 0 ∧ ns.getD a 0 = nI (S.1 (h_a L S)) ∧ ns.getD b 0 = nI (S.1 (h_b L S)) ∧
      (∀ y, y < n + j → js.getD y 0 = nI 0 → ∃ v, v ≤ 2 * T ∧ ns.getD y 0 = nI v ∧ (S.1 (h_a L S) < v ∨ (S.1 (h_a L S) = v ∧ a ≤ y))) ∧
      (∀ y, y < n + j → js.getD y 0 = nI 0 → ¬ y = a → ∃ v, v ≤ 2 * T ∧ ns.getD y 0 = nI v ∧ (S.1 (h_b L S) < v ∨ (S.1 (h_b L S) = v ∧ b ≤ y))) ∧
      S.1 (h_a L S) ≤ 2 * T ∧ S.1 (h_b L S) ≤ 2 * T ∧
      MR n L sy (hstep L S) (ns.set (n + j) (nI (S.1 (h_a L S) + S.1 (h_b L S)))) (((js.set (n + j) (nI 0)).set a (nI 1)).set b (nI 1)) (((ab.set (n + j) (-1)).set a (nI (n + j))).set b (nI (n + j))) := by
  have HL := HI_le H (by omega)
  obtain ⟨N, Q, p, q, c⟩ := S
  obtain ⟨m, e1, e2, e3, e4, e5, e6, hN, hsj, hal, hj2, hde, hpos, hQ, hgr, hsum⟩ := H
  obtain ⟨M1, M2, M3, M4, M5, M6⟩ := M
  unfold h_a h_b h_p h_q
  show ∃ a b, _ ∧ _ ∧ _ ∧ _ ∧ _ ∧ _ ∧ _ ∧ _ ∧ _ ∧ _ ∧ _ ∧ MR n L sy (jN N c (N (tkx N L p q c) + N (tkx N L (tkp N L p q c) (tkq N L p q c) c)), jQ Q (tkx N L p q c) (tkx N L (tkp N L p q c) (tkq N L p q c) c) c, tkp N L (tkp N L p q c) (tkq N L p q c) c, tkq N L (tkp N L p q c) (tkq N L p q c) c, c + 1) _ _ _
  simp only at e1 e2 e3 e4 e5 e6 hN hsj hal hj2 hde hpos hQ hgr hsum HL M1 M2 M3 M4 M5 M6 ⊢
  have hs1 : ∀ x y, x < y → y < L → N x < N y ∨ (N x = N y ∧ sy x < sy y) := fun x y a b => by rw [hN x (by omega), hN y b]; exact hs x y a b
  have l1' : p < L ∨ q < c := by omega
  have A1 := tk_alv (N := N) l1'
  have R1 := tk_rest (N := N) e3 l1'
  have P1 := tk_pq (N := N) e2 e3 e4 l1'
  have T1 := tk_min l1' hs1 hsj e3 hn
  have D := @tk2_dead N L p q c e2 e3 e4 l1'
  generalize tkx N L p q c = a at *
  generalize tkp N L p q c = p1 at *
  generalize tkq N L p q c = q1 at *
  obtain ⟨P11, P12, P13, P14⟩ := P1
  have l2' : p1 < L ∨ q1 < c := by omega
  have D := @D l2'
  have A2 := tk_alv (N := N) l2'
  have R2 := tk_rest (N := N) P12 l2'
  have P2 := tk_pq (N := N) P11 P12 P13 l2'
  have T2 := tk_min l2' hs1 hsj P12 hn
  generalize tkx N L p1 q1 c = b at *
  generalize tkp N L p1 q1 c = p2 at *
  generalize tkq N L p1 q1 c = q2 at *
  obtain ⟨P21, P22, P23, P24⟩ := P2
  have B1 := (R1 b).mp A2
  have ac : a < c := by unfold alv at A1; omega
  have bc : b < c := by unfold alv at A2; omega
  have al : ∀ x, alv L p q c x → x < c := fun x hx => by unfold alv at hx; omega
  have ec : n + (c - L) = n + j := by omega
  have fa : phi sy L n a < n + j := by rw [← ec]; exact phi_lt hn (by omega) ac
  have fb : phi sy L n b < n + j := by rw [← ec]; exact phi_lt hn (by omega) bc
  have fc : phi sy L n c = n + j := by rw [phi_c (by omega), ec]
  have fl : ∀ x, x < c → phi sy L n x < n + j := fun x hx => by rw [← ec]; exact phi_lt hn (by omega) hx
  have fne : ∀ x y, ¬ x = y → ¬ phi sy L n x = phi sy L n y := fun x y => phi_ne hn hi
  have nab : ¬ a = b := fun e => B1.2 e.symm
  have fab := fne a b nab
  rw [ec] at M3
  refine ⟨phi sy L n a, phi sy L n b, fa, fb, fab, M2 a A1, M2 b B1.1, M1 a ac, M1 b bc, ?_, ?_, HL a ac, HL b bc, ?_, ?_, ?_, ?_, ?_, ?_⟩
  · intro y h1 h2
    obtain ⟨x, hx, e⟩ := M3 y h1 h2
    refine ⟨N x, HL x (al x hx), by rw [← e]; exact M1 x (al x hx), ?_⟩
    rw [← e]
    exact T1 x hx
  · intro y h1 h2 h3
    obtain ⟨x, hx, e⟩ := M3 y h1 h2
    refine ⟨N x, HL x (al x hx), by rw [← e]; exact M1 x (al x hx), ?_⟩
    rw [← e]
    exact T2 x ((R1 x).mpr ⟨hx, fun ea => h3 (by rw [← e, ea])⟩)
  · intro x hx
    simp only at hx ⊢
    by_cases exc : x = c
    · rw [exc, fc, gd_self (by omega), jN_at]
    · have := fl x (by omega)
      rw [gd_ne (by omega), jN_ne exc]
      exact M1 x (by omega)
  · intro x hx
    simp only at hx ⊢
    by_cases exc : x = c
    · rw [exc, fc, gd_ne (by omega), gd_ne (by omega), gd_self (by omega)]
    · have h2 := (R2 x).mp (by unfold alv at hx ⊢; omega)
      have h1 := (R1 x).mp h2.1
      have := fl x (al x h1.1)
      rw [gd_ne (fne b x (fun e => h2.2 e.symm)), gd_ne (fne a x (fun e => h1.2 e.symm)), gd_ne (by omega)]
      exact M2 x h1.1
  · intro k hk h0
    simp only at hk ⊢
    by_cases ek : k = n + j
    · exact ⟨c, Or.inr ⟨P23, by omega⟩, by rw [ek, fc]⟩
    · have eb : ¬ phi sy L n b = k := fun e => by
        rw [e, gd_self (by simp only [List.length_set]; omega)] at h0
        exact absurd h0 (by decide +kernel)
      rw [gd_ne eb] at h0
      have ea : ¬ phi sy L n a = k := fun e => by
        rw [e, gd_self (by simp only [List.length_set]; omega)] at h0
        exact absurd h0 (by decide +kernel)
      rw [gd_ne ea, gd_ne (by omega)] at h0
      obtain ⟨x, hx, e⟩ := M3 k (by omega) h0
      refine ⟨x, ?_, e⟩
      have := (R2 x).mpr ⟨(R1 x).mpr ⟨hx, fun q => ea (by rw [← q, e])⟩, fun q => eb (by rw [← q, e])⟩
      unfold alv at this ⊢
      omega
  · intro x hx
    simp only at hx ⊢
    by_cases exc : x = c
    · rw [exc, fc, gd_ne (by omega), gd_ne (by omega), gd_self (by omega)]
    · have h2 := (R2 x).mp (by unfold alv at hx ⊢; omega)
      have h1 := (R1 x).mp h2.1
      have := fl x (al x h1.1)
      rw [gd_ne (fne b x (fun e => h2.2 e.symm)), gd_ne (fne a x (fun e => h1.2 e.symm)), gd_ne (by omega)]
      exact M4 x h1.1
  · intro x hx hd
    simp only at hx hd ⊢
    obtain ⟨g1, g2⟩ := D hx hd
    have := fl x g1
    by_cases eb : x = b
    · rw [eb, gd_self (by simp only [List.length_set]; omega), jQ_b, fc]
    · rw [gd_ne (fne b x (fun e => eb e.symm))]
      by_cases ea : x = a
      · rw [ea, gd_self (by simp only [List.length_set]; omega), jQ_a, fc]
      · rw [gd_ne (fne a x (fun e => ea e.symm)), gd_ne (by omega), jQ_ne ea eb]
        refine M5 x g1 ?_
        rcases g2 with g | g | g
        · exact absurd g ea
        · exact absurd g eb
        · exact g
  · intro k hk hr
    have no : ∀ x, ¬ phi sy L n x = k := by
      intro x e
      unfold phi at e
      by_cases hx : x < L
      · rw [if_pos hx] at e
        exact hr x hx e
      · rw [if_neg hx] at e
        omega
    rw [gd_ne (no b), gd_ne (no a), gd_ne (by omega)]
    exact M6 k hk hr
/-- zeros behind the counts -/
theorem cF_z {cs : List Nat} {k : Nat} : cF (cs ++ List.replicate k 0) = cF cs := by
  funext s
  unfold cF
  rw [List.getD_eq_getElem?_getD, List.getD_eq_getElem?_getD]
  by_cases h : s < cs.length
  · rw [List.getElem?_append_left h]
  · rw [List.getElem?_append_right (by omega), List.getElem?_eq_none (by omega : cs.length ≤ s), List.getElem?_replicate]
    split <;> rfl
theorem lfs_z {cs : List Nat} {k : Nat} : lfs (cs ++ List.replicate k 0) = lfs cs := by
  unfold lfs
  rw [cF_z, List.length_append, List.length_replicate]
  induction k with
  | zero => rfl
  | succ k ih =>
    rw [← Nat.add_assoc, lvs, if_neg, ih]
    unfold cF
    rw [List.getD_eq_getElem?_getD, List.getElem?_eq_none (by omega)]
    decide
theorem hfold_z {cs : List Nat} {k : Nat} : ∀ r, r ≤ (lfs cs).length → hfold (cs ++ List.replicate k 0) r = hfold cs r ++ List.replicate k 0
  | 0, _ => by
    unfold hfold
    rw [List.length_append, List.length_replicate, List.replicate_append_replicate]
  | r + 1, hr => by
    have eN : hN0 (cs ++ List.replicate k 0) = hN0 cs := by
      unfold hN0
      rw [cF_z, lfs_z]
    have eE : hE (cs ++ List.replicate k 0) = hE cs := by
      unfold hE
      rw [eN, lfs_z]
    have eW : wD (cs ++ List.replicate k 0) r = wD cs r := by
      unfold wD
      rw [eE, lfs_z]
    rw [hfold, hfold, hfold_z r (by omega), eW, lfs_z, List.set_append_left _ _ (by rw [hfold_len]; exact (lfs_at (by omega)).1)]
theorem hufW_z {cs : List Nat} {k : Nat} : hufW (cs ++ List.replicate k 0) = hufW cs ++ List.replicate k 0 := by
  unfold hufW
  rw [lfs_z]
  exact hfold_z _ (Nat.le_refl _)
/-- behind d steps up there is none above -/
def pth (ab : List Int32) : Nat → Nat → Prop
  | k, 0 => ab.getD k 0 = -1
  | k, d + 1 => ∃ k2, k2 < 600 ∧ ab.getD k 0 = nI k2 ∧ pth ab k2 d
theorem dep_b {Q : Nat → Nat} {r : Nat} (hQ : ∀ y, y < r → y < Q y ∧ Q y ≤ r) : ∀ (d x : Nat), x + d = r → dep Q r x ≤ d := by
  intro d
  induction d using Nat.strongRecOn with
  | ind d ih =>
    intro x hx
    by_cases e : x = r
    · rw [e, dep_r]
      omega
    · have a := hQ x (by omega)
      rw [dep_s hQ (by omega)]
      have := ih (r - Q x) (by omega) (Q x) (by omega)
      omega
theorem pth_x {ab : List Int32} {Q f : Nat → Nat} {r : Nat} (hQ : ∀ y, y < r → y < Q y ∧ Q y ≤ r) (hf : ∀ x, x ≤ r → f x < 600) (h0 : ab.getD (f r) 0 = -1) (h1 : ∀ x, x < r → ab.getD (f x) 0 = nI (f (Q x))) : ∀ (d x : Nat), x + d = r → pth ab (f x) (dep Q r x) := by
  intro d
  induction d using Nat.strongRecOn with
  | ind d ih =>
    intro x hx
    by_cases e : x = r
    · rw [e, dep_r]
      exact h0
    · have a := hQ x (by omega)
      rw [dep_s hQ (by omega)]
      exact ⟨f (Q x), hf _ a.2, h1 x (by omega), ih (r - Q x) (by omega) (Q x) (by omega)⟩
theorem lvs_n {c : Nat → Nat} {s : Nat} : (lvs c (s + 1)).length = (lvs c s).length + if 0 < c s then 1 else 0 := by
  rw [lvs]
  split
  · rw [insL_len]
  · rfl
theorem MR_0 {cs : List Nat} {ns js ab : List Int32} (h1 : ∀ s, s < cs.length → ns.getD s 0 = nI (cs.getD s 0)) (h2 : ∀ s, s < cs.length → js.getD s 0 = if cs.getD s 0 = 0 then nI 1 else nI 0) (h3 : ∀ s, s < cs.length → ab.getD s 0 = -1) : MR cs.length (lfs cs).length (fun r => (lfs cs).getD r 0) (hN0 cs, fun _ => 0, 0, (lfs cs).length, (lfs cs).length) ns js ab := by
  have al : ∀ x, alv (lfs cs).length 0 (lfs cs).length (lfs cs).length x → x < (lfs cs).length := fun x hx => by unfold alv at hx; omega
  have ph : ∀ x, x < (lfs cs).length → phi (fun r => (lfs cs).getD r 0) (lfs cs).length cs.length x = (lfs cs).getD x 0 := fun x hx => if_pos hx
  refine ⟨fun x hx => ?_, fun x hx => ?_, fun k hk h0 => ?_, fun x hx => ?_, fun x hx hd => ?_, fun k hk _ => h3 k hk⟩
  · rw [ph x hx]
    exact h1 _ (lfs_at hx).1
  · rw [ph x (al x hx), h2 _ (lfs_at (al x hx)).1, if_neg (by have := (lfs_at (al x hx)).2; omega)]
  · simp only [Nat.sub_self, Nat.add_zero] at hk
    rw [h2 k hk] at h0
    split at h0
    · exact absurd h0 (by decide +kernel)
    · rename_i hc
      have : k ∈ lfs cs := (lvs_mem _ _ _).mpr ⟨hk, by unfold cF; omega⟩
      obtain ⟨r, hr, e⟩ := List.getElem_of_mem this
      exact ⟨r, Or.inl ⟨Nat.zero_le _, hr⟩, by rw [ph r hr, gdn hr, e]⟩
  · rw [ph x (al x hx)]
    exact h3 _ (lfs_at (al x hx)).1
  · exact absurd (Or.inl ⟨Nat.zero_le _, hx⟩) hd
/-- at the end: how the paths up go -/
theorem MR_end {cs : List Nat} {ns js ab : List Int32} (hc : cs.length + (lfs cs).length ≤ 601) (M : (lfs cs).length = 0 → ∀ s, s < cs.length → ab.getD s 0 = -1) (M2 : 0 < (lfs cs).length → MR cs.length (lfs cs).length (fun r => (lfs cs).getD r 0) (hE cs) ns js ab) (s : Nat) (hs : s < cs.length) : ∃ d, d < 2 ^ 20 ∧ pth ab s d ∧ (hufW cs).getD s 0 = if 0 < cs.getD s 0 ∧ (lfs cs).length = 1 then 1 else d := by
  by_cases h0 : 0 < cs.getD s 0
  · have : s ∈ lfs cs := (lvs_mem _ _ _).mpr ⟨hs, h0⟩
    obtain ⟨r, hr, e⟩ := List.getElem_of_mem this
    have er : (lfs cs).getD r 0 = s := by rw [gdn hr, e]
    obtain ⟨E1, E2, E3, E4⟩ := hE_end (cs := cs) (by omega)
    obtain ⟨M1, M2, M3, M4, M5, M6⟩ := M2 (by omega)
    have p := pth_x (ab := ab) (f := phi (fun r => (lfs cs).getD r 0) (lfs cs).length cs.length) E3 (fun x hx => ?_) ?_ ?_ (2 * (lfs cs).length - 2 - r) r (by omega)
    · have pr : phi (fun r => (lfs cs).getD r 0) (lfs cs).length cs.length r = s := by rw [← er]; exact if_pos hr
      rw [pr] at p
      have b := dep_b E3 (2 * (lfs cs).length - 2 - r) r (by omega)
      refine ⟨_, by omega, p, ?_⟩
      have := hufW_at (cs := cs) hr
      rw [er] at this
      rw [this, wD]
      by_cases e1 : (lfs cs).length = 1
      · rw [if_pos e1, if_pos ⟨h0, e1⟩]
      · rw [if_neg e1, if_neg (fun q => e1 q.2)]
    · have := phi_lt (sy := fun r => (lfs cs).getD r 0) (n := cs.length) (c := 2 * (lfs cs).length - 1) (fun x hx => (lfs_at hx).1) (by omega) (show x < _ by omega)
      omega
    · refine M4 _ (Classical.not_not.mp (fun q => ?_))
      have := (E2 (2 * (lfs cs).length - 2) (by omega)).mp q
      omega
    · intro x hx
      exact M5 x (by omega) ((E2 x (by omega)).mpr hx)
  · have z : cs.getD s 0 = 0 := by omega
    refine ⟨0, by decide, ?_, ?_⟩
    · by_cases hL : (lfs cs).length = 0
      · exact M hL s hs
      · obtain ⟨M1, M2, M3, M4, M5, M6⟩ := M2 (by omega)
        refine M6 s hs (fun r hr e => ?_)
        have := (lfs_at hr).2
        simp only at e
        rw [e] at this
        omega
    · rw [hufW_0 z, if_neg (fun q => h0 q.1)]
