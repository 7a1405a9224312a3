/-! pack and the call that reads, between two calls -/
section BIG
variable {P : Option Value → db_H → Prop} {h : db_H} {D C : List Nat} {B : List Bool} {N : List Nt} {own : Option Ow} {fp : Int32}
/-- DATA as a row of 300 -/
def lD (D : List Nat) : List Int32 := D.map nI ++ List.replicate (300 - D.length) 0
theorem lD_len (h : D.length ≤ 300) : (lD D).length = 300 := by
  unfold lD
  rw [List.length_append, List.length_map, List.length_replicate]
  omega
theorem lD_take : (lD D).take D.length = D.map nI := by
  unfold lD
  rw [List.take_append_of_le_length (by rw [List.length_map]; omega), List.take_of_length_le (by rw [List.length_map]; omega)]
theorem byt_of {l : List Int32} (e : l.take D.length = D.map nI) (hb : ∀ v ∈ D, v < 256) : byt l D.length := fun j hj => by
  refine ⟨D.getD j 0, ?_, E_at e hj⟩
  rw [gdn hj]
  exact hb _ (List.getElem_mem hj)
/-- packed bits, notes, widths of DATA and CUTS -/
def kT (D C : List Nat) (fr level : Nat) : List Bool := pkT (lD D) C D.length fr level
def kN (D C : List Nat) (fr level : Nat) : List Nt := (pkR (lD D) C D.length fr level).2.1
def kO (D C : List Nat) (fr level : Nat) : Option Ow := (pkR (lD D) C D.length fr level).2.2.map ownOf
theorem nz_zs {h h2 : db_H} (z : zs h h2) (hl : h2.length ≤ h.length) (a : nz h) : nz h2 := fun k c hk e => by
  have h1 := (List.getElem?_eq_some_iff.mp e).1
  have h3 : k < h.length := by omega
  rw [zs_at z (List.getElem?_eq_getElem h3) e]
  exact a k _ hk (List.getElem?_eq_getElem h3)
theorem F28_m {o fc k : Nat} (ho : 117 ≤ o ∧ o ≤ 122) (hf : fc < 127 ∨ 165 ≤ fc) (hk : 127 ≤ k ∧ k ≤ 164) : k ∉ F28 o fc := by
  unfold F28 F38 FOW
  simp only [List.mem_append, List.mem_cons, List.not_mem_nil, or_false]
  omega
/-- the class's pack -/
theorem C28 {fr level : Nat} (hfr : fr ≤ 2) (hlev : level ≤ 3) (A : CI h D C B N own fp) (K0 : 3200 < (kT D C fr level).length → ∀ h2, Cl h h2 → CI h2 D C B N own fp → P (some (.int (-3))) h2) (K1 : (kT D C fr level).length ≤ 3200 → ∀ h2, Cl h h2 → CI h2 D C (kT D C fr level) (kN D C fr level) (kO D C fr level) fp → P (some (.int (nI ((kT D C fr level).length / 8)))) h2) : db_Go 28 0 [.ref 5, .int (nI fr), .int (nI level), .retAddr 0] [] h P := by
  obtain ⟨hl, hz, l, r, a, b, fca, fcb, ja, jb, N', own', h5, ⟨d1, d2, d3, d4, d5⟩, ⟨p1, p2, p3, p4, p5, p6, p7, p8⟩, a4, a5⟩ := A
  obtain ⟨q1, q2, q3, q4, q5, q6, q7, q8, q9, q10, q11⟩ := a5
  have n3 := d1.2.2.2
  have cg := pk_congr (l := l) (l' := lD D) (n := D.length) (by rw [d2, lD_take]) d1.2.2.1 (lD_len n3) n3 (fr := fr) (level := level) (C := C)
  unfold kT at K0 K1
  unfold kN kO at K1
  rw [← cg.2] at K0 K1
  rw [← cg.1] at K1
  have nF : ∀ k, k ∈ F28 b fcb → k < 127 ∨ k = fcb := fun k hk => by
    unfold F28 F38 FOW at hk
    simp only [List.mem_append, List.mem_cons, List.not_mem_nil, or_false] at hk
    omega
  have keep : ∀ h2, Fr (F28 b fcb) h h2 → Cl h h2 ∧ c4 h2 ∧ cL h2 a fca N own ∧ cap h2 fca ja ∧ cD h2 l D.length ∧ cC h2 C ∧ cdW h2 19 fxS ∧ cdW h2 27 fxD ∧ cT h2 := fun h2 f => by
    have nf : ∀ k, ¬ (k = 5 ∨ k = 8 ∨ k = 9 ∨ (12 ≤ k ∧ k ≤ 18) ∨ (35 ≤ k ∧ k ≤ 70) ∨ k = b ∨ k = fcb ∨ (b + 2 ≤ k ∧ k ≤ b + 4)) → k ∉ F28 b fcb := fun k hk hm => by
      unfold F28 F38 FOW at hm
      simp only [List.mem_append, List.mem_cons, List.not_mem_nil, or_false] at hm
      omega
    refine ⟨Cl_fr hl f (fun k hk => nf _ (by omega)), c4_fr f ⟨fun k hk => nf _ (by omega), fun k hk => nf _ (by omega)⟩ a4, cL_fr f ⟨nf _ (by omega), nf _ (by omega), nf _ (by omega), nf _ (by omega), nf _ (by omega)⟩ q7, cap_fr f (nf _ (by omega)) q9, cD_fr f ⟨nf _ (by omega), nf _ (by omega)⟩ d1, cC_fr f ⟨nf _ (by omega), nf _ (by omega)⟩ d4, cdW_fr f (fun k hk => nf _ (by omega)) p4, cdW_fr f (fun k hk => nf _ (by omega)) p5, cT_fr f (fun k hk => nf _ (by omega)) p3⟩
  refine go_zs ?_
  refine f28 (N' := []) (own' := none) hfr hlev hl h5 d1 (byt_of d2 d3) d4 p1 p2 p3 p4 p5 p6 p7 p8 d5 q8 (by omega) (by omega) (by omega) (fca := fca) (fun z h2 N2 own2 f s5 sR sRp sO sp sW sT sL zz => ?_) (fun z h2 f s5 sR sRp sO sp sW sT sL zz => ?_)
  · obtain ⟨k1, k2, k3, k4, k5, k6, k7, k8, k9⟩ := keep h2 f
    have l2 := f.1
    refine K0 z h2 k1 ⟨by omega, nz_zs zz (by omega) hz, l, true, a, b, fca, fcb, ja, jb, N2, own2, s5, ⟨k5, d2, d3, k6, sT⟩, ⟨sRp, fun _ => sR, k9, k7, k8, sO, sp, sW⟩, k2, q1, q2, q3, q4, by omega, by omega, k3, sL, k4, ?_, by omega⟩
    exact cap_zs zz q10 sL
  · obtain ⟨k1, k2, k3, k4, k5, k6, k7, k8, k9⟩ := keep h2 f
    have l2 := f.1
    refine K1 z h2 k1 ⟨by omega, nz_zs zz (by omega) hz, l, true, b, a, fcb, fca, jb, ja, N, own, s5, ⟨k5, d2, d3, k6, sT⟩, ⟨sRp, fun _ => sR, k9, k7, k8, sO, sp, sW⟩, k2, by omega, q3, q2, fun z => q4 z.symm, by omega, by omega, sL, k3, ?_, k4, by omega⟩
    exact cap_zs zz q10 sL
/-- the model's pack -/
theorem M129 {fr level : Nat} (hfr : fr ≤ 2) (hlev : level ≤ 3) (A : MI h D C B N own fp) (K0 : 3200 < (kT D C fr level).length → ∀ h2, Fr MC h h2 → MI h2 D C B N own fp → P (some (.int (-3))) h2) (K1 : (kT D C fr level).length ≤ 3200 → ∀ h2, Fr MC h h2 → MI h2 D C (kT D C fr level) (kN D C fr level) (kO D C fr level) fp → P (some (.int (nI ((kT D C fr level).length / 8)))) h2) : db_Go 129 0 [.ref 127, .int (nI fr), .int (nI level), .retAddr 0, .retAddr 0, .retAddr 0, .retAddr 0, .retAddr 0, .retAddr 0, .retAddr 0] [] h P := by
  obtain ⟨M, l, a1, a2, a3, a4, a5, a6, a7, a8, a9⟩ := A
  have n3 := a2.2.2.2.2.1
  have cg := pk_congr (l := l) (l' := lD D) (n := D.length) (by rw [a3, lD_take]) a2.2.2.2.1 (lD_len n3) n3 (fr := fr) (level := level) (C := C)
  unfold kT at K0 K1
  unfold kN kO at K1
  rw [← cg.2] at K0 K1
  rw [← cg.1] at K1
  refine f129 hfr hlev a1 a2 (byt_of a3 a4) a5 a7 a8 (fun z h2 M2 f m v s t o => ?_) (fun z h2 M2 f m v s t o => ?_)
  · exact K0 z h2 (Fr_mono f (by decide)) ⟨M2, l, m, mDC_fr f (by decide) ⟨v 1 (by decide), v 3 (by decide)⟩ a2, a3, a4, s, ar_fr f (by decide) a6, t, o, (v 6 (by decide)).trans a9⟩
  · exact K1 z h2 (Fr_mono f (by decide)) ⟨M2, l, m, mDC_fr f (by decide) ⟨v 1 (by decide), v 3 (by decide)⟩ a2, a3, a4, s, ar_fr f (by decide) a6, t, o, (v 6 (by decide)).trans a9⟩
/-- the model's call that reads -/
theorem M155 {fr : Nat} (hfr : fr ≤ 2) (A : MI h D C B N own fp) (K0 : ¬ (opS B fr).2 = 0 → ∀ h2, Fr MC h h2 → MI h2 D C B N own (nI (opS B fr).1) → P (some (.int (-10 - nI (opS B fr).2))) h2) (K1 : (opS B fr).2 = 0 → ∀ h2, Fr MC h h2 → (opR B fr).1.1.length ≤ 300 → ((∀ v ∈ (opR B fr).1.1, v < 256) → MI h2 (opR B fr).1.1 [] B (opR B fr).2.1 (opR B fr).2.2 (-1)) → P (some (.int (nI (opR B fr).1.1.length))) h2) : db_Go 155 0 [.ref 127, .int (nI fr), .retAddr 0, .retAddr 0, .retAddr 0, .retAddr 0] [] h P := by
  obtain ⟨M, l, a1, a2, a3, a4, a5, a6, a7, a8, a9⟩ := A
  obtain ⟨d1, d3, d4, d5, d6, cr, d7, d8, d9, d10, d11⟩ := a2
  refine f155 hfr a1 a5 a6 a7 a8 d4 d5 (fun z h2 M2 f m v m1 m3 m6 s a t o d => ?_) (fun z h2 M2 l2 f m v m1 m3 m6 s a t o d ll le len => ?_)
  · exact K0 z h2 (Fr_mono f (by decide)) ⟨M2, l, m, ⟨m1.trans d1, m3.trans d3, d, d5, d6, cr, Fr_get f (by decide) d7, d8, d9, d10, d11⟩, a3, a4, s, a, t, o, m6⟩
  · exact K1 z h2 (Fr_mono f (by decide)) len (fun hv => ⟨M2, l2, m, ⟨m1, m3, d, ll, len, cr, Fr_get f (by decide) d7, d8, by simp, by simp, fun x hx => absurd hx List.not_mem_nil⟩, le, hv, s, a, t, o, m6⟩)
end BIG
