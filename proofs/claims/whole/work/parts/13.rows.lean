/-! words by their places; the world that goes along; rows for the heap's instructions over db_Rl -/
def db_tb : List Cond := lw_tbl.filter goodWord
def db_ne (w : Cond) : Bool := match w with
  | .fieldLinkNest _ _ _ _ _ _ => true
  | .methodLinkNest _ _ _ _ => true
  | _ => false
theorem db_in_tb {i : Nat} {w : Cond} (h : lw_tbl[i]? = some w) (hg : goodWord w = true) : w ∈ db_tb := List.mem_filter.mpr ⟨List.mem_of_getElem? h, hg⟩
theorem db_good_tb : GoodIn db_tb db_tb := fun _ hw => ⟨hw, good_of_word (List.mem_filter.mp hw).2⟩
theorem db_in_ws {ws : List Cond} (h : GoodIn lw_tbl ws) (hg : ws.all goodWord = true) : ∀ w ∈ ws, w ∈ db_tb := fun w hw => List.mem_filter.mpr ⟨(h w hw).1, List.all_eq_true.mp hg w hw⟩
/-- what goes along from state to state: the classes, the nest's words, the static arrays and the script -/
def db_Wd (G : db_G) (T : db_H) (U : State) (H : Heap) : Prop :=
  va_K G.2.2.1 db_cl [(G.2.2.2.1, .int), (G.2.2.2.2, .boolean)] U ∧ (∀ w ∈ lw_tbl, db_ne w = true → va_Nw w U) ∧
  (∀ (j : Nat) (c : db_C), j < db_n → T[j]? = some c → ∃ l : List Int32, c = .inl (0, l) ∧ va_T .int (G.2.1 j) l.length (fun i => .int (l.getD i 0)) (db_A G) U H) ∧
  (∀ (j : Nat) (z : String × String × String), db_sf[j]? = some z → va_Z z.1 z.2.1 z.2.2 (.ref (G.2.1 j)) (db_A G) U H)
theorem db_Wd.moved {G : db_G} {T : db_H} {u U : State} {H : Heap} (hW : u.WarmedH U.vm) (h : db_Wd G T u H) : db_Wd G T U H := by
  obtain ⟨h1, h2, h3, h4⟩ := h
  refine ⟨va_K.moved hW.alike h1, fun w hw hn => ?_, fun j c hj hc => ?_, fun j z hz => (h4 j z hz).moved hW.alike⟩
  · have h := h2 w hw hn
    cases w <;> first | exact va_Nw.warmF hW h | exact va_Nw.warmM hW h | (simp [db_ne] at hn)
  · obtain ⟨l, e, ht⟩ := h3 j c hj hc
    exact ⟨l, e, ht.moved hW.alike⟩
theorem db_Wd.same {G : db_G} {T : db_H} {u U : State} {H : Heap} (hv : u.vm = U.vm) (h : db_Wd G T u H) : db_Wd G T U H := by
  obtain ⟨h1, h2, h3, h4⟩ := h
  have ha : u.vm.Alike U.vm := by rw [hv]; exact Vm.Alike.refl _
  refine ⟨va_K.moved ha h1, fun w hw hn => ?_, fun j c hj hc => ?_, fun j z hz => (h4 j z hz).moved ha⟩
  · have h := h2 w hw hn
    exact va_Nw.same (by cases w <;> first | rfl | (simp [db_ne] at hn)) hv h
  · obtain ⟨l, e, ht⟩ := h3 j c hj hc
    exact ⟨l, e, ht.moved ha⟩
theorem db_Wd.kept {G : db_G} {T : db_H} {U : State} {H H1 : Heap} (h : db_Wd G T U H) (hq : ∀ a : Nat, a < H.size → ¬ db_A G a → H1[a]? = H[a]?) : db_Wd G T U H1 := by
  obtain ⟨h1, h2, h3, h4⟩ := h
  refine ⟨h1, h2, fun j c hj hc => ?_, fun j z hz => (h4 j z hz).kept hq⟩
  obtain ⟨l, e, ht⟩ := h3 j c hj hc
  exact ⟨l, e, ht.kept hq⟩
def db_Cx (G : db_G) (T : db_H) (p : Program) (s : State) (m : MethodId) (args : Array Value) (meth : Method) (c : Code) (y : Nat) : Prop :=
  p.tables.exec = Jvm.exec ∧ c.code = db_by y ∧ c.maxLocals = db_ml y ∧ s.vm.findClass (db_ow y) = some m.cls ∧ (∀ w ∈ db_tb, w.before args s = true) ∧ ((db_my y).name = "<init>" → meth.name = "<init>") ∧ db_Wd G T s s.heap
/-- a cell is set: the others stay -/
theorem db_Rl.set {G : db_G} {T h : db_H} {H H1 : Heap} {k : Nat} {c c' : db_C} (hR : db_Rl G db_cl T h H) (hk : ¬ k < db_n) (hc : h[k]? = some c) (hz : H1.size = H.size) (ho : ∀ q : Nat, q ≠ G.1 + (k - db_n) → H1[q]? = H[q]?) (ha : va_at G.2.2.1 db_cl (G.1 + (k - db_n), db_en G c') H1) : db_Rl G db_cl T (h.set k c') H1 := by
  obtain ⟨h1, h2, h3, h4⟩ := hR
  have hl : k < h.length := (List.getElem?_eq_some_iff.mp hc).1
  refine ⟨by simpa using h1, by rw [hz, h2]; simp, fun j hj => ?_, fun j d hj hd => ?_⟩
  · rw [List.getElem?_set_ne (by omega)]
    exact h3 j hj
  · by_cases e : j = k
    · subst e
      rw [List.getElem?_set_self hl] at hd
      cases hd
      exact ha
    · rw [List.getElem?_set_ne (Ne.symm e)] at hd
      exact (h4 j d hj hd).kept (ho _ (by show G.1 + (j - db_n) ≠ _; omega))
theorem db_Rl.push {G : db_G} {T h : db_H} {H H1 : Heap} {c : db_C} (hR : db_Rl G db_cl T h H) (hz : H1.size = H.size + 1) (ho : ∀ q : Nat, q < H.size → H1[q]? = H[q]?) (ha : va_at G.2.2.1 db_cl (H.size, db_en G c) H1) : db_Rl G db_cl T (h ++ [c]) H1 := by
  obtain ⟨h1, h2, h3, h4⟩ := hR
  refine ⟨by simp; omega, by rw [hz, h2]; simp; omega, fun j hj => ?_, fun j d hj hd => ?_⟩
  · rw [List.getElem?_append_left (by omega)]
    exact h3 j hj
  · by_cases e : j < h.length
    · rw [List.getElem?_append_left e] at hd
      exact (h4 j d hj hd).kept (ho _ ((h4 j d hj hd).lt))
    · rw [List.getElem?_append_right (by omega)] at hd
      have hz' : j - h.length < 1 := (List.getElem?_eq_some_iff.mp hd).1
      have e2 : j = h.length := by omega
      subst e2
      rw [Nat.sub_self] at hd
      cases hd
      rw [← h2]
      exact ha
theorem db_Rl.new {G : db_G} {T h : db_H} {H : Heap} (hR : db_Rl G db_cl T h H) : db_ad G h.length = H.size := by
  obtain ⟨h1, h2, -, -⟩ := hR
  rw [db_ad_dyn (by omega), h2]
theorem db_S.put {G : db_G} {H0 H H1 : Heap} {locs : List Loc} {a i : Nat} (h : va_S (db_A G) H0 H locs) (z : H1.size = H.size) (oq : ∀ q : Nat, q ≠ a → H1[q]? = H[q]?) (ha : G.1 ≤ a) : va_S (db_A G) H0 H1 (locs ++ [⟨a, i⟩]) := h.put z oq ha
theorem db_S.push {G : db_G} {H0 H H1 : Heap} {locs : List Loc} (h : va_S (db_A G) H0 H locs) (z : H1.size = H.size + 1) (oq : ∀ q : Nat, q < H.size → H1[q]? = H[q]?) : va_S (db_A G) H0 H1 locs :=
  ⟨by rw [z]; exact Nat.le_succ_of_le h.1, fun q h1 h2 => (oq q (Nat.lt_of_lt_of_le h1 h.1)).trans (h.2.1 q h1 h2), h.2.2⟩
section DBR
variable {p : Program} {l : Launch} {e : Env} {R : Room} {s : State} {m : MethodId} {args : Array Value} {below : List Frame} {meth : Method} {c : Code} {H : Heap} {locs : List Loc} {cells slots : Nat} {Q : State → Prop}
variable {cc : ByteArray} {pc : Nat} {ls : Array Slot} {rest : List Value} {D : va_G} {cl : List vw_C} {a : Nat} {tys : List (ClassId × FieldType)}
/-- getfield, own class or nest -/
theorem db_getf (hexec : p.tables.exec = Jvm.exec) (hb : c.code = cc) {own C : String} {T : u_T} {N ci index : Nat} {Ts : List Cond} (hts : ∀ w ∈ Ts, w.before args s = true) (hin : ∀ w ∈ u_ws C T N, w ∈ Ts) (hown : s.vm.findClass own = some m.cls) (hK : va_K D cl tys s) {fs : List Value} (he : va_at D cl (a, .inr (ci, fs)) H) (hc : cl[ci]? = some (C, T, N)) (k : Nat) (hk : k < N)
    (hlink : (Cond.fieldLink own index (T k).1 (T k).2.1 (T k).2.2.1).before args s = true ∨ ∃ host, (Cond.fieldLinkNest own index (T k).1 (T k).2.1 (T k).2.2.1 host).before args s = true) {v : Value} (hv : fs[k]? = some v) (hdg : decode cc pc = .ok (.getfield index, 3))
    (kk : W p l e R s m args below meth c H locs cells slots Q (F0 m (pc + 3) ls (v :: rest))) : W p l e R s m args below meth c H locs cells slots Q (F0 m pc ls (.ref a :: rest)) := by
  have hP : va_P D cl [(a, .inr (ci, fs))] H := fun k q h => by
    have hz : k < 1 := (List.getElem?_eq_some_iff.mp h).1
    rw [show k = 0 by omega] at h
    cases h
    exact he
  rcases hlink with hl | ⟨host, hl⟩
  · exact va_get hexec hb hts hin hown hK hP 0 rfl hc k hk hl (fun _ h => h) hv hdg kk
  · exact va_getN hexec hb hts hin hown hK hP 0 rfl hc k hk hl (fun _ h => h) hv hdg kk
/-- putfield: a plain field, a final one in its constructor, a nest mate's -/
theorem db_putf (hexec : p.tables.exec = Jvm.exec) (hb : c.code = cc) {own C : String} {T : u_T} {N ci index : Nat} {Ts : List Cond} (hts : ∀ w ∈ Ts, w.before args s = true) (hin : ∀ w ∈ u_ws C T N, w ∈ Ts) (ty0 : Nat → FieldType) (hty : ∀ k, k < N → parseFieldDescriptor (T k).2.2.1 = some (ty0 k)) (hnm : ∀ a, a < N → ∀ b, b < N → a ≠ b → (T a).2.1 ≠ (T b).2.1) (hown : s.vm.findClass own = some m.cls) (hK : va_K D cl tys s) {fs : List Value} (he : va_at D cl (a, .inr (ci, fs)) H) (hc : cl[ci]? = some (C, T, N)) (k : Nat) (hk : k < N)
    (hlink : ((T k).2.2.2 = false ∧ (Cond.fieldLink own index (T k).1 (T k).2.1 (T k).2.2.1).before args s = true) ∨ ((T k).2.2.2 = true ∧ meth.name = "<init>" ∧ (T k).1 = own ∧ (Cond.fieldLink own index (T k).1 (T k).2.1 (T k).2.2.1).before args s = true) ∨ ((T k).2.2.2 = false ∧ ∃ host, (Cond.fieldLinkNest own index (T k).1 (T k).2.1 (T k).2.2.1 host).before args s = true))
    {ty : FieldType} {v : Value} (hd : parseFieldDescriptor (T k).2.2.1 = some ty) (hn : narrow ty v = v) (hfit : fits ty v = true) (hl : k < fs.length) (hdg : decode cc pc = .ok (.putfield index, 3))
    (kk : ∀ (H1 : Heap) (i : Nat), va_at D cl (a, .inr (ci, fs.set k v)) H1 → H1.size = H.size → (∀ q : Nat, q ≠ a → H1[q]? = H[q]?) → W p l e R s m args below meth c H1 (locs ++ [⟨a, i⟩]) cells slots Q (F0 m (pc + 3) ls rest)) : W p l e R s m args below meth c H locs cells slots Q (F0 m pc ls (v :: .ref a :: rest)) := by
  have hap := va_apart (own := own) hts hin ty0 hty hnm hK hc
  obtain ⟨r, h1, cell, q1, q2, q3, q4⟩ := he
  have hr : r = (C, T, N) := Option.some.inj (h1.symm.trans hc)
  subst hr
  obtain ⟨hS, hfc, kC, hkC, hkind⟩ := hK.1 ci _ hc
  obtain ⟨cf, kf, fi, f, hi, hsl⟩ := hS k hk
  have hlay := hts _ (hin _ (u_in_lay hk))
  have hst := (u_facts hfc hkC (u_lays hts hin hk) hi).1
  have fin : ∀ H' : Heap, H'[a]? = some (cell.setSlot f.slot v) → H'.size = H.size → (∀ q, q ≠ a → H'[q]? = H[q]?) → W p l e R s m args below meth c H' (locs ++ [⟨a, f.slot⟩]) cells slots Q (F0 m (pc + 3) ls rest) := by
    intro H' e1 e2 e3
    rw [hsl] at e1 ⊢
    exact kk H' _ ⟨_, hc, t_OB.to (V := updV (vp_V fs) k v) ⟨_, e1, q2, q3, t_set q4 hap hk v⟩ (fun j _ => vp_updV_set hl v j)⟩ e2 e3
  unfold u_lay at hlay
  rcases hlink with ⟨hfin, hlk⟩ | ⟨hfin, hin2, hdecl, hlk⟩ | ⟨hfin, host, hlk⟩
  · rw [if_neg (by rw [hfin]; decide)] at hlay
    have h6 := u_store hfc hkC hkind hlay hi hd hn hfit
    exact W.putK hexec hb (f := f) ⟨hown, hlk, ⟨_, _, _, hi⟩, hst⟩ (by rw [q2]; exact h6) q1 q3 (by rw [hsl]; exact k2_hasslot (q4 k hk)) rfl rfl hdg fin
  · rw [if_pos hfin] at hlay
    have hcf : m.cls = cf := by
      obtain ⟨_, _, c', _, _, _, -, -, hf', -, -, -, hown2, -⟩ := Cond.laysFinal_spec hlay
      have e1 : c' = cf := by have := hi.symm.trans hf'; simp at this; exact this.1.symm
      rw [hdecl] at hown2
      rw [← e1]; exact Option.some.inj (hown.symm.trans hown2)
    have h6 := u_fits hfc hkC hkind (Or.inr hlay) hi hd hn hfit
    exact W.putFinK hexec hb hown hlk hi hst hcf hin2 (by rw [q2]; exact h6) q1 q3 (by rw [hsl]; exact k2_hasslot (q4 k hk)) rfl rfl hdg fin
  · rw [if_neg (by rw [hfin]; decide)] at hlay
    have h6 := u_store hfc hkC hkind hlay hi hd hn hfit
    exact va_WputK hexec hb (f := f) hown hlk hi hst (by rw [q2]; exact h6) q1 q3 (by rw [hsl]; exact k2_hasslot (q4 k hk)) rfl rfl hdg fin
theorem db_newo (hexec : p.tables.exec = Jvm.exec) (hb : c.code = cc) {own C : String} {T : u_T} {N ci index : Nat} {Ts : List Cond} (hts : ∀ w ∈ Ts, w.before args s = true) (hin : ∀ w ∈ u_ws C T N, w ∈ Ts) (ty : Nat → FieldType) (hty : ∀ k, k < N → parseFieldDescriptor (T k).2.2.1 = some (ty k)) (hown : s.vm.findClass own = some m.cls) (hcl : (Cond.classLink own index C).before args s = true) (hinst : (Cond.instantiable C N).before args s = true) (hini : (Cond.initialized C).before args s = true)
    (hK : va_K D cl tys s) (hc : cl[ci]? = some (C, T, N)) {fs : List Value} (hfs : ∀ j, j < N → defaultValue (ty j) = vp_V fs j) (hcells : cells + 1 ≤ R.cells) (hslots : slots + N ≤ R.slots) (hdg : decode cc pc = .ok (.new index, 3))
    (kk : ∀ (H1 : Heap), va_at D cl (H.size, .inr (ci, fs)) H1 → H1.size = H.size + 1 → (∀ q : Nat, q < H.size → H1[q]? = H[q]?) →
      W p l e R s m args below meth c H1 locs (cells + 1) (slots + N) Q (F0 m (pc + 3) ls (.ref H.size :: rest))) : W p l e R s m args below meth c H locs cells slots Q (F0 m pc ls rest) := by
  have hKn := hK.1 ci _ hc
  refine W.newcK hexec hb hown hcl hinst hini rfl hdg hcells hslots hKn.2.1 rfl fun H1 kC hkC e1 z1 o1 => ?_
  exact kk H1 ⟨_, hc, (u_born ty hts hin hKn hkC e1 hty).to hfs⟩ z1 o1
end DBR
