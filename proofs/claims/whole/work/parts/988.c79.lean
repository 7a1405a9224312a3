/-! the class's call that reads, between two calls -/
section BIG2
variable {P : Option Value → db_H → Prop} {h ex : db_H} {D C : List Nat} {B : List Bool} {N : List Nt} {own : Option Ow} {fp : Int32}
theorem cRp_ap (A : cRp h) : cRp (h ++ ex) := by
  obtain ⟨pl, ln, vl, a, b, c, h1, h2, h3, h4, r⟩ := A
  exact ⟨pl, ln, vl, a, b, c, ap h1, ap h2, ap h3, ap h4, r⟩
theorem cR_ap {T : List St} (A : cR h T) : cR (h ++ ex) T := by
  obtain ⟨pl, ln, vl, x, y, h1, h2, h3, h4, r⟩ := A
  exact ⟨pl, ln, vl, x, y, ap h1, ap h2, ap h3, ap h4, r⟩
theorem jS_ap (J : jS h) : jS (h ++ ex) := by
  obtain ⟨a, b, c, d, la, nu, jt, dd, h60, h61, h62, h63, h64, r⟩ := J
  exact ⟨a, b, c, d, la, nu, jt, dd, ap h60, ap h61, ap h62, ap h63, ap h64, r⟩
theorem cO_ap (A : cO h) : cO (h ++ ex) := by
  obtain ⟨⟨a, b, c, d, h35⟩, ⟨w1, c1, l1⟩, ⟨w2, c2, l2⟩, ⟨w3, c3, l3⟩, J, r65, r66, r67, r68, r69, r70⟩ := A
  exact ⟨⟨a, b, c, d, ap h35⟩, ⟨w1, cdS_ap c1, l1⟩, ⟨w2, cdS_ap c2, l2⟩, ⟨w3, cdS_ap c3, l3⟩, jS_ap J, ar_ap r65, ar_ap r66, ar_ap r67, ar_ap r68, ar_ap r69, ar_ap r70⟩
theorem cW_ap {W : List Bool} (A : cW h W) : cW (h ++ ex) W := by
  obtain ⟨a, b, l, c, d⟩ := A
  exact ⟨len_ap a, ap b, l, ap c, d⟩
theorem c3_ap {l : List Int32} {r : Bool} (A : c3 h l D C r) : c3 (h ++ ex) l D C r := by
  obtain ⟨a1, a2, a3, a4, a5, a6, ⟨y4, y5, y6, y7, a7⟩, W, a8, a9⟩ := A
  exact ⟨cRp_ap a1, fun z => cR_ap (a2 z), cT_ap a3, cdW_ap a4, cdW_ap a5, cO_ap a6, ⟨y4, y5, y6, y7, ap a7⟩, W, cW_ap a8, a9⟩
theorem cTp_ap (A : cTp h B) : cTp (h ++ ex) B := by
  obtain ⟨row, a, b, r⟩ := A
  exact ⟨row, ap a, ap b, r⟩
theorem cap_ap {fc j : Nat} (A : cap h fc j) : cap (h ++ ex) fc j := by
  obtain ⟨fa, a, r⟩ := A
  exact ⟨fa, ap a, r⟩
theorem F79_n {b fc k : Nat} (hk : ¬ (k = 5 ∨ k = 6 ∨ k = 7 ∨ k = 10 ∨ (72 ≤ k ∧ k ≤ 116) ∨ k = b ∨ (b + 2 ≤ k ∧ k ≤ b + 4) ∨ k = fc)) : k ∉ F79 b fc := by
  unfold F79 F86
  simp only [List.mem_append, List.mem_cons, List.not_mem_nil, or_false]
  omega
/-- the class's call -/
theorem C79 {fr : Nat} (hfr : fr ≤ 2) (A : CI h D C B N own fp) (K0 : ¬ (opS B fr).2 = 0 → ∀ h2, Cl h h2 → CI h2 D C B N own (nI (opS B fr).1) → P (some (.int (-10 - nI (opS B fr).2))) h2) (K1 : (opS B fr).2 = 0 → ∀ h2, Cl h h2 → (∀ v ∈ (opR B fr).1.1, v < 256) → CI h2 (opR B fr).1.1 [] B (opR B fr).2.1 (opR B fr).2.2 (-1) → P (some (.int (nI (opR B fr).1.1.length))) h2) : db_Go 79 0 [.ref 5, .int (nI fr), .retAddr 0] [] h P := by
  obtain ⟨hl, hz, l, r, a, b, fca, fcb, ja, jb, N', own', h5, ⟨d1, d2, d3, d4, d5⟩, a3, ⟨o1, o2, o3, o4⟩, q1, q2, q3, q4, q5, q6, q7, q8, q9, q10, q11⟩ := A
  obtain ⟨cr, e10, e11, cr1, cr2, cr3, cr4⟩ := d4
  obtain ⟨e6, e7, l1, l2⟩ := d1
  have keep : ∀ h2, FrN (F79 b fcb) h h2 → Cl h h2 ∧ c3 h2 l D C r ∧ cL h2 a fca N own ∧ cap h2 fca ja ∧ cTp h2 B ∧ h2[11]? = some (.inl (0, cr)) := fun h2 f => by
    have fa := FrN_app f
    refine ⟨Cl_n hl f (fun k h1 h3 => F79_n (by omega)), c3_fr fa ⟨fun k hk => F79_n (by omega), fun k hk => F79_n (by omega)⟩ (c3_ap a3), cL_fr fa ⟨F79_n (by omega), F79_n (by omega), F79_n (by omega), F79_n (by omega), F79_n (by omega)⟩ (cL_ap q7), cap_fr fa (F79_n (by omega)) (cap_ap q9), cTp_fr fa ⟨F79_n (by omega), F79_n (by omega)⟩ (cTp_ap d5), FrN_get f (F79_n (by omega)) e11⟩
  have nz2 : ∀ h2, zs h h2 → szN h h2 fcb → nz h2 := fun h2 z s k c hk e => by
    by_cases g : k < h.length
    · rw [zs_at z (List.getElem?_eq_getElem g) e]
      exact hz k _ hk (List.getElem?_eq_getElem g)
    · obtain ⟨w, w1, w2⟩ := s.1 k (by omega) (List.getElem?_eq_some_iff.mp e).1
      rw [w1] at e
      have : c = .inl (0, w) := by simpa using e.symm
      rw [this]
      exact w2
  refine go_zs ?_
  refine f79 hfr (by omega) (by omega) (by omega) q6 hl h5 e6 e7 l1 e10 o2 o3 o4 d5 o1 q8 q10 (fun z h2 fc2 j2 N2 own2 f fcc fl2 ct sz s5 s6 s7 s10 s71 sR sE sG sL sC zz => ?_) (fun z h2 ln fc2 j2 f fcc fl2 ct sz s5 sD sl sv s10 s71 sR sE sG sL sC zz => ?_)
  · obtain ⟨k1, k2, k3, k4, k5, k6⟩ := keep h2 f
    have hle := f.1
    exact K0 z h2 k1 ⟨by omega, nz2 h2 zz sz, l, r, a, b, fca, fc2, ja, j2, N2, own2, s5, ⟨⟨s6, s7, l1, l2⟩, d2, d3, ⟨cr, s10, k6, cr1, cr2, cr3, cr4⟩, k5⟩, k2, ⟨sG, s71, sR, sE⟩, q1, q2, by omega, by omega, by omega, fl2, k3, sL, k4, sC, by omega⟩
  · obtain ⟨k1, ⟨g1, g2, g3, g4, g5, g6, g7, g8⟩, k3, k4, k5, k6⟩ := keep h2 f
    have hle := f.1
    have e0 : nI 0 = bI false := rfl
    rw [e0] at s5
    exact K1 z h2 k1 sv ⟨by omega, nz2 h2 zz sz, ln, false, b, a, fc2, fca, j2, ja, N, own, s5, ⟨sD, sl, sv, ⟨cr, s10, k6, cr1, by simp, by simp, fun x hx => absurd hx List.not_mem_nil⟩, k5⟩, ⟨g1, fun w => absurd w (by decide), g3, g4, g5, g6, g7, g8⟩, ⟨sG, s71, sR, sE⟩, by omega, by omega, q2, by omega, fl2, by omega, sL, k3, sC, k4, by omega⟩
end BIG2
