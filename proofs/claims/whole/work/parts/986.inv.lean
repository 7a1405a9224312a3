/-! what holds between two calls: the class, the model -/
/-- DATA, CUTS, THE TAPE of the class -/
def c2 (h : db_H) (l : List Int32) (D C : List Nat) (B : List Bool) : Prop := cD h l D.length ∧ l.take D.length = D.map nI ∧ (∀ v ∈ D, v < 256) ∧ cC h C ∧ cTp h B
/-- what packing keeps -/
def c3 (h : db_H) (l : List Int32) (D C : List Nat) (r : Bool) : Prop := cRp h ∧ (r = true → cR h (steps l C D.length)) ∧ cT h ∧ cdW h 19 fxS ∧ cdW h 27 fxD ∧ cO h ∧ (∃ y4 y5 y6 y7, h[16]? = some (pkO y4 y5 y6 y7)) ∧ ∃ W, cW h W ∧ W.length < 2 ^ 29
/-- what opening keeps -/
def c4 (h : db_H) : Prop := cG h ∧ h[71]? = some opO ∧ cRs h ∧ cEs h
/-- the two logs: a is told, b is spare -/
def c5 (h : db_H) (a b fca fcb ja jb : Nat) (N N' : List Nt) (own own' : Option Ow) : Prop := ((a = 117 ∧ b = 122) ∨ (a = 122 ∧ b = 117)) ∧ (fca = a + 1 ∨ 165 ≤ fca) ∧ (fcb = b + 1 ∨ 165 ≤ fcb) ∧ ¬ fca = fcb ∧ fca < h.length ∧ fcb < h.length ∧ cL h a fca N own ∧ cL h b fcb N' own' ∧ cap h fca ja ∧ cap h fcb jb ∧ h.length ≤ 165 + ja + jb
section INV
variable {h h2 : db_H} {F : List Nat} {l : List Int32} {D C : List Nat} {B : List Bool} {r : Bool}
theorem c2_fr (f : Fr F h h2) (hF : ∀ k, k < 6 → 6 + k ∉ F) (A : c2 h l D C B) : c2 h2 l D C B := by
  obtain ⟨a1, a2, a3, a4, a5⟩ := A
  exact ⟨cD_fr f ⟨hF 0 (by decide), hF 1 (by decide)⟩ a1, a2, a3, cC_fr f ⟨hF 4 (by decide), hF 5 (by decide)⟩ a4, cTp_fr f ⟨hF 2 (by decide), hF 3 (by decide)⟩ a5⟩
theorem c3_fr (f : Fr F h h2) (hF : (∀ k, k < 4 → k ∉ F) ∧ ∀ k, k < 59 → 12 + k ∉ F) (A : c3 h l D C r) : c3 h2 l D C r := by
  obtain ⟨a1, a2, a3, a4, a5, a6, ⟨y4, y5, y6, y7, a7⟩, W, a8, a9⟩ := A
  have q : ∀ k, 12 ≤ k → k < 71 → k ∉ F := fun k h1 h2 => by have := hF.2 (k - 12) (by omega); rwa [show 12 + (k - 12) = k by omega] at this
  exact ⟨cRp_fr f ⟨q _ (by decide) (by decide), q _ (by decide) (by decide), q _ (by decide) (by decide), q _ (by decide) (by decide)⟩ a1, fun z => cR_fr f ⟨q _ (by decide) (by decide), q _ (by decide) (by decide), q _ (by decide) (by decide), q _ (by decide) (by decide)⟩ (a2 z), cT_fr f hF.1 a3, cdW_fr f (fun k hk => q _ (by omega) (by omega)) a4, cdW_fr f (fun k hk => q _ (by omega) (by omega)) a5, cO_fr f (fun k hk => q _ (by omega) (by omega)) a6, ⟨y4, y5, y6, y7, Fr_get f (q _ (by decide) (by decide)) a7⟩, W, cW_fr f ⟨q _ (by decide) (by decide), q _ (by decide) (by decide)⟩ a8, a9⟩
theorem cRs_fr (f : Fr F h h2) (hF : 72 ∉ F) (A : cRs h) : cRs h2 := by
  obtain ⟨a, b, c, d, e⟩ := A
  exact ⟨a, b, c, d, Fr_get f hF e⟩
theorem cEs_fr (f : Fr F h h2) (hF : 74 ∉ F ∧ 75 ∉ F) (A : cEs h) : cEs h2 := by
  obtain ⟨a, b, c, d, e⟩ := A
  exact ⟨a, b, Fr_get f hF.1 c, Fr_get f hF.2 d, e⟩
theorem c4_fr (f : Fr F h h2) (hF : (∀ k, k < 4 → k ∉ F) ∧ ∀ k, k < 46 → 71 + k ∉ F) (A : c4 h) : c4 h2 := by
  obtain ⟨a1, a2, a3, a4⟩ := A
  have q : ∀ k, 71 ≤ k → k < 117 → k ∉ F := fun k h1 h2 => by have := hF.2 (k - 71) (by omega); rwa [show 71 + (k - 71) = k by omega] at this
  exact ⟨cG_fr f ⟨hF.1, fun k hk => q _ (by omega) (by omega)⟩ a1, Fr_get f (q _ (by decide) (by decide)) a2, cRs_fr f (q _ (by decide) (by decide)) a3, cEs_fr f ⟨q _ (by decide) (by decide), q _ (by decide) (by decide)⟩ a4⟩
theorem c5_fr {a b fca fcb ja jb : Nat} {N N' : List Nt} {own own' : Option Ow} (f : Fr F h h2) (hF : (∀ k, k < 10 → 117 + k ∉ F) ∧ ∀ k, 165 ≤ k → k ∉ F) (A : c5 h a b fca fcb ja jb N N' own own') : c5 h2 a b fca fcb ja jb N N' own own' := by
  obtain ⟨a1, a2, a3, a4, a5, a6, a7, a8, a9, a10, a11⟩ := A
  have q : ∀ k, (117 ≤ k ∧ k < 127) ∨ 165 ≤ k → k ∉ F := fun k hk => by
    rcases hk with hk | hk
    · have := hF.1 (k - 117) (by omega)
      rwa [show 117 + (k - 117) = k by omega] at this
    · exact hF.2 k hk
  have l1 := f.1
  exact ⟨a1, a2, a3, a4, by omega, by omega, cL_fr f ⟨q _ (by omega), q _ (by omega), q _ (by omega), q _ (by omega), q _ (by omega)⟩ a7, cL_fr f ⟨q _ (by omega), q _ (by omega), q _ (by omega), q _ (by omega), q _ (by omega)⟩ a8, cap_fr f (q _ (by omega)) a9, cap_fr f (q _ (by omega)) a10, by omega⟩
end INV
/-- rows that came behind are small -/
def nz (h : db_H) : Prop := ∀ k c, 165 ≤ k → h[k]? = some c → db_cz c ≤ 1605
/-- the class between two calls -/
def CI (h : db_H) (D C : List Nat) (B : List Bool) (N : List Nt) (own : Option Ow) (fp : Int32) : Prop := 164 < h.length ∧ nz h ∧ ∃ (l : List Int32) (r : Bool) (a b fca fcb ja jb : Nat) (N' : List Nt) (own' : Option Ow), h[5]? = some (tob a b (bI r) fp) ∧ c2 h l D C B ∧ c3 h l D C r ∧ c4 h ∧ c5 h a b fca fcb ja jb N N' own own'
/-- the model between two calls -/
def MI (h : db_H) (D C : List Nat) (B : List Bool) (N : List Nt) (own : Option Ow) (fp : Int32) : Prop := ∃ (M : Nat → Int32) (l : List Int32), h[127]? = some (.inr (12, mfs M)) ∧ mDC h M l D.length C ∧ l.take D.length = D.map nI ∧ (∀ v ∈ D, v < 256) ∧ mS h ∧ ar h 164 300 ∧ mTp h M B ∧ mOld h M N own ∧ M 6 = fp
def MC : List Nat := [127, 128, 129, 130, 131, 132, 133, 134, 135, 136, 137, 138, 139, 140, 141, 142, 143, 144, 145, 146, 147, 148, 149, 150, 151, 152, 153, 154, 155, 156, 157, 158, 159, 160, 161, 162, 163, 164]
theorem MC_n {k : Nat} (h : k < 127 ∨ 165 ≤ k) : k ∉ MC := by
  unfold MC
  simp only [List.mem_cons, List.not_mem_nil, or_false]
  omega
section INV2
variable {h h2 : db_H} {D C : List Nat} {B : List Bool} {N : List Nt} {own : Option Ow} {fp : Int32}
/-- the model's calls leave the class alone -/
theorem CI_m (f : Fr MC h h2) (A : CI h D C B N own fp) : CI h2 D C B N own fp := by
  obtain ⟨hl, hz, l, r, a, b, fca, fcb, ja, jb, N', own', a1, a2, a3, a4, a5⟩ := A
  have hz2 : nz h2 := fun k c hk e => by
    have : k < h2.length := (List.getElem?_eq_some_iff.mp e).1
    rw [f.2 k (by rw [← f.1]; exact this) (MC_n (by omega))] at e
    exact hz k c hk e
  exact ⟨Fr_len f hl, hz2, l, r, a, b, fca, fcb, ja, jb, N', own', Fr_get f (MC_n (by omega)) a1, c2_fr f (fun k hk => MC_n (by omega)) a2, c3_fr f ⟨fun k hk => MC_n (by omega), fun k hk => MC_n (by omega)⟩ a3, c4_fr f ⟨fun k hk => MC_n (by omega), fun k hk => MC_n (by omega)⟩ a4, c5_fr f ⟨fun k hk => MC_n (by omega), fun k hk => MC_n (by omega)⟩ a5⟩
/-- the class's calls leave the model alone -/
def Cl (h h2 : db_H) : Prop := h.length ≤ h2.length ∧ ∀ k, 127 ≤ k → k ≤ 164 → h2[k]? = h[k]?
theorem Cl_fr {F : List Nat} (hl : 164 < h.length) (f : Fr F h h2) (hF : ∀ k, k < 38 → 127 + k ∉ F) : Cl h h2 := ⟨by rw [f.1]; exact Nat.le_refl _, fun k h1 h3 => f.2 k (by omega) (by have := hF (k - 127) (by omega); rwa [show 127 + (k - 127) = k by omega] at this)⟩
theorem Cl_n {F : List Nat} (hl : 164 < h.length) (f : FrN F h h2) (hF : ∀ k, 127 ≤ k → k ≤ 164 → k ∉ F) : Cl h h2 := ⟨f.1, fun k h1 h3 => f.2 k (by omega) (hF k h1 h3)⟩
theorem Cl_ar {k n : Nat} (f : Cl h h2) (h1 : 127 ≤ k) (h3 : k ≤ 164) (A : ar h k n) : ar h2 k n := by
  obtain ⟨c, e, l⟩ := A
  exact ⟨c, (f.2 k h1 h3).trans e, l⟩
theorem Cl_n5 {o : Nat} {N : List Nt} (f : Cl h h2) (h1 : 127 ≤ o) (h3 : o + 4 ≤ 164) (A : n5R h o N) : n5R h2 o N := by
  obtain ⟨a1, a2, a3, a4, a5, e1, e2, e3, e4, e5, r⟩ := A
  exact ⟨a1, a2, a3, a4, a5, (f.2 _ (by omega) (by omega)).trans e1, (f.2 _ (by omega) (by omega)).trans e2, (f.2 _ (by omega) (by omega)).trans e3, (f.2 _ (by omega) (by omega)).trans e4, (f.2 _ (by omega) (by omega)).trans e5, r⟩
theorem Cl_ow {o : Nat} {own : Option Ow} (f : Cl h h2) (h1 : 127 ≤ o) (h3 : o + 2 ≤ 164) (A : owM h o own) : owM h2 o own := by
  obtain ⟨a1, a2, a3, a4⟩ := A
  exact ⟨Cl_ar f (by omega) (by omega) a1, Cl_ar f (by omega) (by omega) a2, Cl_ar f (by omega) (by omega) a3, fun x hx => ⟨(f.2 _ (by omega) (by omega)).trans (a4 x hx).1, (f.2 _ (by omega) (by omega)).trans (a4 x hx).2.1, (f.2 _ (by omega) (by omega)).trans (a4 x hx).2.2⟩⟩
theorem MI_c (f : Cl h h2) (A : MI h D C B N own fp) : MI h2 D C B N own fp := by
  obtain ⟨M, l, a1, ⟨d1, d3, d4, d5, d6, cr, d7, d8⟩, a3, a4, ⟨s1, s2, s3, s4, s5, ⟨j1, j2, j3, j4, j5, j6, j7⟩, ⟨oa, o1, o2⟩, ⟨p1, p2, p3, p4, p5, p6, p7, p8, p9⟩, ⟨n1, n2⟩, ⟨w1, w2⟩⟩, a6, ⟨ta, t1, t2⟩, ⟨b1, b2, b3, b4⟩, a9⟩ := A
  have g : ∀ {k : Nat} {c : db_C}, 127 ≤ k → k ≤ 164 → h[k]? = some c → h2[k]? = some c := fun h1 h3 e => (f.2 _ h1 h3).trans e
  have fl := f.1
  exact ⟨M, l, g (by decide) (by decide) a1, ⟨d1, d3, g (by decide) (by decide) d4, d5, d6, cr, g (by decide) (by decide) d7, d8⟩, a3, a4, ⟨by omega, Cl_ar f (by decide) (by decide) s2, Cl_ar f (by decide) (by decide) s3, Cl_ar f (by decide) (by decide) s4, Cl_ar f (by decide) (by decide) s5, ⟨j1, j2, j3, g (by decide) (by decide) j4, g (by decide) (by decide) j5, g (by decide) (by decide) j6, j7⟩, ⟨oa, g (by decide) (by decide) o1, o2⟩, ⟨Cl_ar f (by decide) (by decide) p1, Cl_ar f (by decide) (by decide) p2, Cl_ar f (by decide) (by decide) p3, Cl_ar f (by decide) (by decide) p4, Cl_ar f (by decide) (by decide) p5, Cl_ar f (by decide) (by decide) p6, Cl_ar f (by decide) (by decide) p7, Cl_ar f (by decide) (by decide) p8, Cl_ar f (by decide) (by decide) p9⟩, ⟨n1, Cl_n5 f (by decide) (by decide) n2⟩, ⟨w1, Cl_ow f (by decide) (by decide) w2⟩⟩, Cl_ar f (by decide) (by decide) a6, ⟨ta, g (by decide) (by decide) t1, t2⟩, ⟨Cl_n5 f (by decide) (by decide) b1, b2, b3, Cl_ow f (by decide) (by decide) b4⟩, a9⟩
/-- DATA alike: packed alike -/
theorem pk_congr {l l' : List Int32} {n : Nat} (e : l.take n = l'.take n) (h1 : l.length = 300) (h3 : l'.length = 300) (hn : n ≤ 300) {fr level : Nat} {C : List Nat} : pkR l C n fr level = pkR l' C n fr level ∧ pkT l C n fr level = pkT l' C n fr level := by
  have g : ∀ j, j < n → l.getD j 0 = l'.getD j 0 := fun j hj => by
    have := congrArg (fun z => z.getD j 0) e
    simp only [List.getD_eq_getElem?_getD, List.getElem?_take_of_lt hj] at this
    rw [List.getD_eq_getElem?_getD, List.getD_eq_getElem?_getD]
    exact this
  have s := steps_congr (C := C) g
  have a : pkR l C n fr level = pkR l' C n fr level := by
    unfold pkR
    rw [s, e]
  refine ⟨a, ?_⟩
  unfold pkT
  rw [a, e]
end INV2
