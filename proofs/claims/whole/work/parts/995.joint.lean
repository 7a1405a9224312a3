/-! each call, class and model side by side -/
section JOINT
variable {h : db_H} {s : S6}
theorem CJ_T (A : CJ h s) : s.2.2.1.length ≤ 3200 := by
  obtain ⟨hl, l, r, a, b, h5, ⟨d, e2, e3, e4, ⟨row, t8, t9, w, b8, bl⟩⟩, _⟩ := CI_b A
  exact bl
theorem CJ_N (A : CJ h s) : s.2.2.2.1.length ≤ 2000 := by
  obtain ⟨hl, a, b, r, fca, h5, ha1, ha2, c1, ⟨fa, c2', c3', c4', c5', c6⟩, c7⟩ := CI_L A
  have := c3'.1
  omega
theorem CJ_O (A : CJ h s) : ∀ x, s.2.2.2.2.1 = some x → x.1.length = 286 ∧ x.2.1.length = 30 ∧ x.2.2.length = 19 := by
  obtain ⟨hl, a, b, r, fca, h5, ha1, ha2, c1, c2', ⟨u0, v0, k0⟩, ⟨u1, v1, k1⟩, ⟨u2, v2, k2⟩, c4'⟩ := CI_L A
  intro x hx
  obtain ⟨z0, z1, z2'⟩ := c4' x hx
  rw [v0] at z0
  rw [v1] at z1
  rw [v2] at z2'
  have y0 : u0 = x.1.map nI := by simpa using z0
  have y1 : u1 = x.2.1.map nI := by simpa using z1
  have y2 : u2 = x.2.2.map nI := by simpa using z2'
  rw [y0, List.length_map] at k0
  rw [y1, List.length_map] at k1
  rw [y2, List.length_map] at k2
  exact ⟨k0, k1, k2⟩
theorem J0 {v : Int32} (A : CJ h s) (B : MJ h s) : JQ 19 117 [.ref 5, .int v] [.ref 127, .int v] h := by
  rcases rng (v := v) (m := 255) (by decide) with q | q | ⟨k, hk, e⟩
  · exact JQ_mk s (-2) B (fun P K => C19o (Or.inl q) (K h Cl_rf A)) (fun h1 P m _ K => M117o (Or.inl q) (K h1 Fr_refl m))
  · exact JQ_mk s (-2) B (fun P K => C19o (Or.inr q) (K h Cl_rf A)) (fun h1 P m _ K => M117o (Or.inr q) (K h1 Fr_refl m))
  · subst e
    by_cases z : s.1.length = 300
    · exact JQ_mk s (-3) B (fun P K => C19 (by omega) A (fun z2 => absurd z2 (by omega)) (fun _ => K h Cl_rf A)) (fun h1 P m _ K => M117 (by omega) m (fun z2 => absurd z2 (by omega)) (fun _ => K h1 Fr_refl m))
    · exact JQ_mk (s.1 ++ [k], s.2) (nI (s.1.length + 1)) B (fun P K => C19 (by omega) A (fun _ => K) (fun z2 => absurd z2 z)) (fun h1 P m _ K => M117 (by omega) m (fun _ => K) (fun z2 => absurd z2 z))
theorem J1 (A : CJ h s) (B : MJ h s) : JQ 22 119 [.ref 5, .retAddr 0] [.ref 127, .retAddr 0] h :=
  JQ_mk ([], [], s.2.2) (nI s.1.length) B (fun P K => C22 A K) (fun h1 P m _ K => M119 m K)
theorem J2 {v : Int32} (A : CJ h s) (B : MJ h s) : JQ 23 120 [.ref 5, .int v] [.ref 127, .int v, .retAddr 0] h := by
  have out : (v < nI 1 ∨ (¬ v < nI 1 ∧ nI 299 < v)) → JQ 23 120 [.ref 5, .int v] [.ref 127, .int v, .retAddr 0] h := fun q =>
    JQ_mk s (-2) B (fun P K => C23o q (K h Cl_rf A)) (fun h1 P m _ K => M120o q (K h1 Fr_refl m))
  rcases rng (v := v) (m := 299) (by decide) with q | ⟨q1, q2⟩ | ⟨k, hk, e⟩
  · exact out (Or.inl (Int32.lt_trans q (nI_lt (by decide) (by decide))))
  · exact out (Or.inr ⟨fun z => nI_nlt (show 1 ≤ 299 by decide) (by decide) (Int32.lt_trans q2 z), q2⟩)
  · by_cases k0 : k = 0
    · exact out (Or.inl (by rw [e, k0]; exact nI_lt (by decide) (by decide)))
    · subst e
      by_cases z : k ∈ s.2.1
      · exact JQ_mk s (nI s.2.1.length) B (fun P K => C23 (by omega) A (fun _ => K) (fun y => absurd z y) (fun y => absurd z y)) (fun h1 P m _ K => M120 (by omega) m (fun _ => K h1 Fr_refl m) (fun y => absurd z y) (fun y => absurd z y))
      · by_cases z2 : s.2.1.length < 2
        · exact JQ_mk (s.1, s.2.1 ++ [k], s.2.2) (nI (s.2.1.length + 1)) B (fun P K => C23 (by omega) A (fun y => absurd y z) (fun _ _ => K) (fun _ y => absurd y (by omega))) (fun h1 P m _ K => M120 (by omega) m (fun y => absurd y z) (fun _ _ => K) (fun _ y => absurd y (by omega)))
        · exact JQ_mk s (-3) B (fun P K => C23 (by omega) A (fun y => absurd y z) (fun _ y => absurd y z2) (fun _ _ => K h Cl_rf A)) (fun h1 P m _ K => M120 (by omega) m (fun y => absurd y z) (fun _ y => absurd y z2) (fun _ _ => K h1 Fr_refl m))
theorem J3 {v : Int32} (A : CJ h s) (B : MJ h s) : JQ 25 121 [.ref 5, .int v] [.ref 127, .int v] h :=
  JQ_mk s (if db_in v s.1.length = true then nI (s.1.getD v.toNatClampNeg 0) else -1) B (fun P K => C25 A (K h Cl_rf A)) (fun h1 P m _ K => M121 m (K h1 Fr_refl m))
theorem J4 {f v : Int32} (A : CJ h s) (B : MJ h s) : JQ 28 129 [.ref 5, .int f, .int v, .retAddr 0] [.ref 127, .int f, .int v, .retAddr 0, .retAddr 0, .retAddr 0, .retAddr 0, .retAddr 0, .retAddr 0, .retAddr 0] h := by
  have out : ((f < nI 0 ∨ (¬ f < nI 0 ∧ nI 2 < f)) ∨ ((∃ k, k ≤ 2 ∧ f = nI k) ∧ (v < nI 0 ∨ (¬ v < nI 0 ∧ nI 3 < v)))) → JQ 28 129 [.ref 5, .int f, .int v, .retAddr 0] [.ref 127, .int f, .int v, .retAddr 0, .retAddr 0, .retAddr 0, .retAddr 0, .retAddr 0, .retAddr 0, .retAddr 0] h := fun q =>
    JQ_mk s (-2) B (fun P K => C28o q (K h Cl_rf A)) (fun h1 P m _ K => M129o q (K h1 Fr_refl m))
  rcases rng (v := f) (m := 2) (by decide) with q | q | ⟨k, hk, e⟩
  · exact out (Or.inl (Or.inl q))
  · exact out (Or.inl (Or.inr q))
  · rcases rng (v := v) (m := 3) (by decide) with q | q | ⟨k2, hk2, e2⟩
    · exact out (Or.inr ⟨⟨k, hk, e⟩, Or.inl q⟩)
    · exact out (Or.inr ⟨⟨k, hk, e⟩, Or.inr q⟩)
    · subst e
      subst e2
      have c := fun P => C28 (P := P) hk hk2 A
      have m := fun h1 P (mj : MJ h1 s) => M129 (P := P) hk hk2 mj
      generalize kT s.1 s.2.1 k k2 = t at c m
      generalize kN s.1 s.2.1 k k2 = n at c m
      generalize kO s.1 s.2.1 k k2 = o at c m
      by_cases z : 3200 < t.length
      · exact JQ_mk s (-3) B (fun P K => c P (fun _ => K) (fun y => absurd y (by omega))) (fun h1 P mj _ K => m h1 P mj (fun _ => K) (fun y => absurd y (by omega)))
      · exact JQ_mk (s.1, s.2.1, t, n, o, s.2.2.2.2.2) (nI (t.length / 8)) B (fun P K => c P (fun y => absurd y z) (fun _ => K)) (fun h1 P mj _ K => m h1 P mj (fun y => absurd y z) (fun _ => K))
theorem J5 {f : Int32} (A : CJ h s) (B : MJ h s) : JQ 79 155 [.ref 5, .int f, .retAddr 0] [.ref 127, .int f, .retAddr 0, .retAddr 0, .retAddr 0, .retAddr 0] h := by
  have out : (f < nI 0 ∨ (¬ f < nI 0 ∧ nI 2 < f)) → JQ 79 155 [.ref 5, .int f, .retAddr 0] [.ref 127, .int f, .retAddr 0, .retAddr 0, .retAddr 0, .retAddr 0] h := fun q =>
    JQ_mk s (-2) B (fun P K => C79o q (K h Cl_rf A)) (fun h1 P m _ K => M155o q (K h1 Fr_refl m))
  rcases rng (v := f) (m := 2) (by decide) with q | q | ⟨k, hk, e⟩
  · exact out (Or.inl q)
  · exact out (Or.inr q)
  · subst e
    have c := fun P => C79 (P := P) hk A
    have m := fun h1 P (mj : MJ h1 s) => M155 (P := P) hk mj
    generalize opS s.2.2.1 k = p at c m
    generalize opR s.2.2.1 k = r at c m
    by_cases z : p.2 = 0
    · exact JQ_mk (r.1.1, [], s.2.2.1, r.2.1, r.2.2, -1) (nI r.1.1.length) B (fun P K => c P (fun y => absurd z y) (fun _ h2 cl _ ci => K h2 cl ci)) (fun h1 P mj hv K => m h1 P mj (fun y => absurd z y) (fun _ h2 f _ mi => K h2 f (mi hv)))
    · exact JQ_mk (s.1, s.2.1, s.2.2.1, s.2.2.2.1, s.2.2.2.2.1, nI p.1) (-10 - nI p.2) B (fun P K => c P (fun _ => K) (fun y => absurd y z)) (fun h1 P mj hv K => m h1 P mj (fun _ => K) (fun y => absurd y z))
theorem J6 (A : CJ h s) (B : MJ h s) : JQ 104 169 [.ref 5] [.ref 127] h :=
  JQ_mk s s.2.2.2.2.2 B (fun P K => C104 A (K h Cl_rf A)) (fun h1 P m _ K => M169 m (K h1 Fr_refl m))
theorem J7 {i v : Int32} (A : CJ h s) (B : MJ h s) : JQ 105 170 [.ref 5, .int i, .int v] [.ref 127, .int i, .int v] h := by
  rcases in_or v (n := 5) (by decide) with ⟨_, k, hk, e⟩ | ⟨_, q⟩
  · subst e
    exact JQ_mk s (if db_in i s.2.2.2.1.length = true then nI (ntF (s.2.2.2.1.getD i.toNatClampNeg (0, 0, 0, 0, 0)) k) else -1) B (fun P K => C105 hk A (K h Cl_rf A)) (fun h1 P m _ K => M170 hk m (CJ_N A) (K h1 Fr_refl m))
  · exact JQ_mk s (-2) B (fun P K => C105o q (K h Cl_rf A)) (fun h1 P m _ K => M170o q (K h1 Fr_refl m))
theorem J8 {x y : Int32} (A : CJ h s) (B : MJ h s) : JQ 107 171 [.ref 5, .int x, .int y, .retAddr 0] [.ref 127, .int x, .int y] h := by
  rcases in_or x (n := 3) (by decide) with ⟨_, k, hk, e⟩ | ⟨q0, q⟩
  · subst e
    exact JQ_mk s (wdA s.2.2.2.2.1 k y) B (fun P K => C107 hk A (K h Cl_rf A)) (fun h1 P m _ K => M171 hk m (CJ_O A) (K h1 Fr_refl m))
  · have hx : ¬ x = nI 0 ∧ ¬ x = nI 1 ∧ ¬ x = nI 2 := by
      refine ⟨fun e => ?_, fun e => ?_, fun e => ?_⟩
      all_goals
        rw [e, in_nI (by decide) (by decide)] at q0
        cases q0
    exact JQ_mk s (-2) B (fun P K => C107x hx A (K h Cl_rf A)) (fun h1 P m _ K => M171x hx (K h1 Fr_refl m))
theorem J9 (A : CJ h s) (B : MJ h s) : JQ 109 122 [.ref 5] [.ref 127] h :=
  JQ_mk s (nI (sD s.1 s.2.1).length) B (fun P K => C109 A K) (fun h1 P m _ K => M122 m K)
theorem J10 {i v : Int32} (A : CJ h s) (B : MJ h s) : JQ 110 125 [.ref 5, .int i, .int v] [.ref 127, .int i, .int v] h := by
  rcases rng (v := v) (m := 2) (by decide) with q | q | ⟨k, hk, e⟩
  · exact JQ_mk s (-2) B (fun P K => C110o (Or.inl q) (K h Cl_rf A)) (fun h1 P m _ K => M125o (Or.inl q) (K h1 Fr_refl m))
  · exact JQ_mk s (-2) B (fun P K => C110o (Or.inr q) (K h Cl_rf A)) (fun h1 P m _ K => M125o (Or.inr q) (K h1 Fr_refl m))
  · subst e
    exact JQ_mk s (if db_in i (sD s.1 s.2.1).length = true then stW ((sD s.1 s.2.1).getD i.toNatClampNeg (0, 0, 0)) k else -1) B (fun P K => C110 (by omega) A K) (fun h1 P m _ K => M125 (by omega) m K)
theorem J11 {x : Int32} (A : CJ h s) (B : MJ h s) : JQ 111 126 [.ref 5, .int x] [.ref 127, .int x] h :=
  JQ_mk s (if x = nI 0 then adler (s.1.map nI) else if x = nI 1 then crc (s.1.map nI) else nI 0) B (fun P K => C111 A (K h Cl_rf A)) (fun h1 P m _ K => M126 m (K h1 Fr_refl m))
theorem J12 {v : Int32} (A : CJ h s) (B : MJ h s) : JQ 112 172 [.ref 5, .int v] [.ref 127, .int v, .retAddr 0, .retAddr 0] h :=
  JQ_mk s (if db_in v (s.2.2.1.length / 8) = true then nI (bsum s.2.2.1 v.toNatClampNeg 8) else -1) B (fun P K => C112 A (K h Cl_rf A)) (fun h1 P m _ K => M172 m (K h1 Fr_refl m))
theorem J13 {i v : Int32} (A : CJ h s) (B : MJ h s) : JQ 113 173 [.ref 5, .int i, .int v] [.ref 127, .int i, .int v] h := by
  have bl := CJ_T A
  have out : ((v < nI 0 ∨ (¬ v < nI 0 ∧ nI 7 < v)) ∨ ((∃ k, k < 8 ∧ v = nI k) ∧ db_in i (s.2.2.1.length / 8) = false)) → JQ 113 173 [.ref 5, .int i, .int v] [.ref 127, .int i, .int v] h := fun q =>
    JQ_mk s (-2) B (fun P K => C113o A q (K h Cl_rf A)) (fun h1 P m _ K => M173o m q (K h1 Fr_refl m))
  rcases rng (v := v) (m := 7) (by decide) with q | q | ⟨k, hk, e⟩
  · exact out (Or.inl (Or.inl q))
  · exact out (Or.inl (Or.inr q))
  · rcases in_or i (n := s.2.2.1.length / 8) (by omega) with ⟨_, j, hj, e2⟩ | ⟨q, _⟩
    · subst e
      subst e2
      exact JQ_mk (s.1, s.2.1, fpB s.2.2.1 (8 * j + k), s.2.2.2) (nI (bsum (fpB s.2.2.1 (8 * j + k)) j 8)) B (fun P K => C113 hj (by omega) A K) (fun h1 P m _ K => M173 hj (by omega) m K)
    · exact out (Or.inr ⟨⟨k, by omega, e⟩, q⟩)
theorem J14 {v : Int32} (A : CJ h s) (B : MJ h s) : JQ 114 174 [.ref 5, .int v] [.ref 127, .int v] h := by
  have bl := CJ_T A
  rcases rng (v := v) (m := s.2.2.1.length / 8) (by omega) with q | q | ⟨k, hk, e⟩
  · exact JQ_mk s (-2) B (fun P K => C114o A (Or.inl q) (K h Cl_rf A)) (fun h1 P m _ K => M174o m (Or.inl q) (K h1 Fr_refl m))
  · exact JQ_mk s (-2) B (fun P K => C114o A (Or.inr q) (K h Cl_rf A)) (fun h1 P m _ K => M174o m (Or.inr q) (K h1 Fr_refl m))
  · subst e
    exact JQ_mk (s.1, s.2.1, s.2.2.1.take (8 * k), s.2.2.2) (nI k) B (fun P K => C114 (by omega) A K) (fun h1 P m _ K => M174 (by omega) m K)
theorem J15 {v : Int32} (A : CJ h s) (B : MJ h s) : JQ 115 175 [.ref 5, .int v] [.ref 127, .int v, .retAddr 0] h := by
  have bl := CJ_T A
  rcases rng (v := v) (m := 255) (by decide) with q | q | ⟨k, hk, e⟩
  · exact JQ_mk s (-2) B (fun P K => C115o (Or.inl q) (K h Cl_rf A)) (fun h1 P m _ K => M175o (Or.inl q) (K h1 Fr_refl m))
  · exact JQ_mk s (-2) B (fun P K => C115o (Or.inr q) (K h Cl_rf A)) (fun h1 P m _ K => M175o (Or.inr q) (K h1 Fr_refl m))
  · subst e
    by_cases z : s.2.2.1.length = 3200
    · exact JQ_mk s (-3) B (fun P K => C115 (by omega) A (fun z2 => absurd z2 (by omega)) (fun _ => K h Cl_rf A)) (fun h1 P m _ K => M175 (by omega) m (fun z2 => absurd z2 (by omega)) (fun _ => K h1 Fr_refl m))
    · exact JQ_mk (s.1, s.2.1, s.2.2.1 ++ fb (nI k) 0 8, s.2.2.2) (nI (s.2.2.1.length / 8 + 1)) B (fun P K => C115 (by omega) A (fun _ => K) (fun z2 => absurd z2 z)) (fun h1 P m _ K => M175 (by omega) m (fun _ => K) (fun z2 => absurd z2 z))
end JOINT
