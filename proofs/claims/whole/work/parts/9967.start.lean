/-! what holds at the start -/
section START
variable {h : db_H}
theorem wOK_nil : wOK (List.replicate 400 0) [] := by
  refine ⟨List.length_replicate, fun j i hi => ?_, fun i b hb => ?_⟩
  · have e : (List.replicate 400 (0 : Int32)).getD j 0 = 0 := by
      rw [List.getD_eq_getElem?_getD, List.getElem?_replicate]
      split <;> rfl
    rw [e]
    exact b_0 i
  · rw [List.getElem?_nil] at hb
    cases hb
theorem kL_c {k : Nat} (a : kL h k) : cL h k (k + 1) [] none ∧ cap h (k + 1) 0 := by
  obtain ⟨a0, a1, a2, a3, a4⟩ := a
  refine ⟨⟨a0, ⟨_, a1, ⟨Nat.zero_le _, fun i t ht => ?_⟩, by rw [List.length_replicate]; decide, by rw [List.length_replicate]; decide, by rw [List.length_replicate]⟩, a2, a3, a4, fun x hx => ?_⟩, ⟨_, a1, by rw [List.length_replicate]; decide, by decide⟩⟩
  · rw [List.getElem?_nil] at ht
    cases ht
  · cases hx
theorem st_CI (hl : h.length = 165) (e5 : h[5]? = some (tob 117 122 (nI 1) (-1))) (ka : kA h) (kb : kB h) (kc : kC h) (k1 : kL h 117) (k2 : kL h 122) : CI h [] [] [] [] none (-1) := by
  obtain ⟨a0, a6, a7, a8, a9, a10, a11, a12, a13, a14, a15⟩ := ka
  obtain ⟨b0, b1, b2, b3, b4, b5⟩ := kb
  obtain ⟨d0, d1, d2, d3, d4, d5⟩ := kc
  have l1 := kL_c k1
  have l2 := kL_c k2
  have h164 : 164 < h.length := by omega
  refine ⟨h164, fun k c hk e => ?_, List.replicate 300 0, true, 117, 122, 118, 123, 0, 0, [], none, e5, ⟨⟨a6, a7, List.length_replicate, Nat.zero_le _⟩, rfl, fun v hv => absurd hv List.not_mem_nil, ⟨_, a10, a11, List.length_replicate, rfl, Nat.zero_le _, fun x hx => absurd hx List.not_mem_nil⟩, ⟨_, a8, a9, wOK_nil, rfl, Nat.zero_le _⟩⟩, ⟨⟨_, _, _, _, _, _, a12, a13, a14, a15, List.length_replicate, List.length_replicate, List.length_replicate⟩, fun _ => ⟨_, _, _, _, _, a12, a13, a14, a15, stOK_nil List.length_replicate List.length_replicate List.length_replicate, Nat.zero_le _, fun t ht => absurd ht List.not_mem_nil⟩, a0, b3, b4, b5, ⟨_, _, _, _, b0⟩, [], ⟨h164, b1, _, b2, wOK_nil⟩, by decide⟩, ⟨⟨a0, d3, d4, d5⟩, d0, d1, d2⟩, Or.inl ⟨rfl, rfl⟩, Or.inl rfl, Or.inl rfl, by decide, by omega, by omega, l1.1, l2.1, l1.2, l2.2, by omega⟩
  have := (List.getElem?_eq_some_iff.mp e).1
  omega
theorem n5_nil {o : Nat} {a1 a2 a3 a4 a5 : List Int32} (e1 : h[o]? = some (.inl (0, a1))) (e2 : h[o + 1]? = some (.inl (0, a2))) (e3 : h[o + 2]? = some (.inl (0, a3))) (e4 : h[o + 3]? = some (.inl (0, a4))) (e5 : h[o + 4]? = some (.inl (0, a5))) (l1 : a1.length = 2000) (l2 : a2.length = 2000) (l3 : a3.length = 2000) (l4 : a4.length = 2000) (l5 : a5.length = 2000) : n5R h o [] :=
  ⟨a1, a2, a3, a4, a5, e1, e2, e3, e4, e5, l1, l2, l3, l4, l5, fun i t ht => by
    rw [List.getElem?_nil] at ht
    cases ht⟩
theorem ow_nil {o : Nat} (e1 : ar h o 288) (e2 : ar h (o + 1) 32) (e3 : ar h (o + 2) 19) : owM h o none := ⟨e1, e2, e3, fun x hx => by cases hx⟩
theorem st_MI (hl : h.length = 127) : MI (h ++ [.inr (12, mfs m0Z), .inl (0, List.replicate 300 0), .inl (0, List.replicate 2 0), .inl (1, List.replicate 4000 0), .inl (0, List.replicate 2000 0), .inl (0, List.replicate 2000 0), .inl (0, List.replicate 2000 0), .inl (0, List.replicate 2000 0), .inl (0, List.replicate 2000 0), .inl (0, List.replicate 288 0), .inl (0, List.replicate 32 0), .inl (0, List.replicate 19 0), .inl (0, List.replicate 300 0), .inl (0, List.replicate 300 0), .inl (0, List.replicate 300 0), .inl (0, List.replicate 16 0), .inl (0, List.replicate 600 0), .inl (0, List.replicate 600 0), .inl (1, List.replicate 600 0), .inl (1, List.replicate 24000 0), .inl (0, List.replicate 288 0), .inl (0, List.replicate 32 0), .inl (0, List.replicate 19 0), .inl (0, List.replicate 288 0), .inl (0, List.replicate 32 0), .inl (0, List.replicate 320 0), .inl (0, List.replicate 320 0), .inl (0, List.replicate 320 0), .inl (0, List.replicate 19 0), .inl (0, List.replicate 2000 0), .inl (0, List.replicate 2000 0), .inl (0, List.replicate 2000 0), .inl (0, List.replicate 2000 0), .inl (0, List.replicate 2000 0), .inl (0, List.replicate 288 0), .inl (0, List.replicate 32 0), .inl (0, List.replicate 19 0), .inl (0, List.replicate 300 0)]) [] [] [] [] none (-1) := by
  have hL : 164 < (h ++ ([.inr (12, mfs m0Z), .inl (0, List.replicate 300 0), .inl (0, List.replicate 2 0), .inl (1, List.replicate 4000 0), .inl (0, List.replicate 2000 0), .inl (0, List.replicate 2000 0), .inl (0, List.replicate 2000 0), .inl (0, List.replicate 2000 0), .inl (0, List.replicate 2000 0), .inl (0, List.replicate 288 0), .inl (0, List.replicate 32 0), .inl (0, List.replicate 19 0), .inl (0, List.replicate 300 0), .inl (0, List.replicate 300 0), .inl (0, List.replicate 300 0), .inl (0, List.replicate 16 0), .inl (0, List.replicate 600 0), .inl (0, List.replicate 600 0), .inl (1, List.replicate 600 0), .inl (1, List.replicate 24000 0), .inl (0, List.replicate 288 0), .inl (0, List.replicate 32 0), .inl (0, List.replicate 19 0), .inl (0, List.replicate 288 0), .inl (0, List.replicate 32 0), .inl (0, List.replicate 320 0), .inl (0, List.replicate 320 0), .inl (0, List.replicate 320 0), .inl (0, List.replicate 19 0), .inl (0, List.replicate 2000 0), .inl (0, List.replicate 2000 0), .inl (0, List.replicate 2000 0), .inl (0, List.replicate 2000 0), .inl (0, List.replicate 2000 0), .inl (0, List.replicate 288 0), .inl (0, List.replicate 32 0), .inl (0, List.replicate 19 0), .inl (0, List.replicate 300 0)] : db_H)).length := by
    rw [List.length_append, hl]
    exact (show 164 < 127 + 38 by decide)
  exact ⟨m0Z, List.replicate 300 0, (aq (k := 0) (by omega)).trans rfl, ⟨rfl, rfl, (aq (k := 1) (by omega)).trans rfl, List.length_replicate, Nat.zero_le _, _, (aq (k := 2) (by omega)).trans rfl, List.length_replicate, rfl, Nat.zero_le _, fun x hx => absurd hx List.not_mem_nil⟩, rfl, fun v hv => absurd hv List.not_mem_nil, ⟨hL, ⟨_, (aq (k := 12) (by omega)).trans rfl, List.length_replicate⟩, ⟨_, (aq (k := 13) (by omega)).trans rfl, List.length_replicate⟩, ⟨_, (aq (k := 14) (by omega)).trans rfl, List.length_replicate⟩, ⟨_, (aq (k := 15) (by omega)).trans rfl, List.length_replicate⟩, ⟨_, _, _, (aq (k := 16) (by omega)).trans rfl, (aq (k := 17) (by omega)).trans rfl, (aq (k := 18) (by omega)).trans rfl, List.length_replicate, List.length_replicate, List.length_replicate⟩, ⟨_, (aq (k := 19) (by omega)).trans rfl, List.length_replicate⟩, ⟨⟨_, (aq (k := 20) (by omega)).trans rfl, List.length_replicate⟩, ⟨_, (aq (k := 21) (by omega)).trans rfl, List.length_replicate⟩, ⟨_, (aq (k := 22) (by omega)).trans rfl, List.length_replicate⟩, ⟨_, (aq (k := 23) (by omega)).trans rfl, List.length_replicate⟩, ⟨_, (aq (k := 24) (by omega)).trans rfl, List.length_replicate⟩, ⟨_, (aq (k := 25) (by omega)).trans rfl, List.length_replicate⟩, ⟨_, (aq (k := 26) (by omega)).trans rfl, List.length_replicate⟩, ⟨_, (aq (k := 27) (by omega)).trans rfl, List.length_replicate⟩, ⟨_, (aq (k := 28) (by omega)).trans rfl, List.length_replicate⟩⟩, ⟨[], n5_nil ((aq (k := 29) (by omega)).trans rfl) ((aq (k := 30) (by omega)).trans rfl) ((aq (k := 31) (by omega)).trans rfl) ((aq (k := 32) (by omega)).trans rfl) ((aq (k := 33) (by omega)).trans rfl) List.length_replicate List.length_replicate List.length_replicate List.length_replicate List.length_replicate⟩, ⟨none, ow_nil ⟨_, (aq (k := 34) (by omega)).trans rfl, List.length_replicate⟩ ⟨_, (aq (k := 35) (by omega)).trans rfl, List.length_replicate⟩ ⟨_, (aq (k := 36) (by omega)).trans rfl, List.length_replicate⟩⟩⟩, ⟨_, (aq (k := 37) (by omega)).trans rfl, List.length_replicate⟩, ⟨_, (aq (k := 3) (by omega)).trans rfl, List.length_replicate, rfl, rfl, Nat.zero_le _, fun i b hb => by
    rw [List.getElem?_nil] at hb
    cases hb⟩, ⟨n5_nil ((aq (k := 4) (by omega)).trans rfl) ((aq (k := 5) (by omega)).trans rfl) ((aq (k := 6) (by omega)).trans rfl) ((aq (k := 7) (by omega)).trans rfl) ((aq (k := 8) (by omega)).trans rfl) List.length_replicate List.length_replicate List.length_replicate List.length_replicate List.length_replicate, rfl, rfl, ow_nil ⟨_, (aq (k := 9) (by omega)).trans rfl, List.length_replicate⟩ ⟨_, (aq (k := 10) (by omega)).trans rfl, List.length_replicate⟩ ⟨_, (aq (k := 11) (by omega)).trans rfl, List.length_replicate⟩⟩, rfl⟩
theorem bd_T {xs : List Int32} (hx : xs.length ≤ 1536) : bd (db_T xs) := by
  intro k c e
  have m := List.mem_of_getElem? e
  unfold db_T at m
  simp only [List.mem_cons, List.not_mem_nil, or_false] at m
  rcases m with m | m | m | m | m
  · rw [m]
    decide
  · rw [m]
    decide
  · rw [m]
    decide
  · rw [m]
    decide
  · rw [m]
    show xs.length ≤ 24000
    omega
theorem cT_T {xs : List Int32} : cT (db_T xs) := ⟨rfl, rfl, rfl, rfl⟩
theorem go_mono {y pc : Nat} {L S : List Value} {P Q : Option Value → db_H → Prop} (g : db_Go y pc L S h P) (k : ∀ v h2, P v h2 → Q v h2) : db_Go y pc L S h Q := by
  obtain ⟨f, v, h2, e, p⟩ := g
  exact ⟨f, v, h2, e, k v h2 p⟩
theorem and15 (v : Int32) : ∃ k, k < 16 ∧ v &&& nI 15 = nI k := by
  refine ⟨(v &&& nI 15).toBitVec.toNat, ?_, ?_⟩
  · rw [Int32.toBitVec_and, BitVec.toNat_and]
    exact Nat.lt_of_le_of_lt Nat.and_le_right (by decide +kernel)
  · refine b_ext (fun i hi => ?_)
    rw [b_nat _ _ hi]
    rfl
theorem ex3 {n i : Nat} (hn : n ≤ 1536) (hi : i < 2 ^ 20) : (nI n - nI 3 < nI i) = (n < i + 3) := by
  by_cases q : n < 3
  · rw [eq_true (show n < i + 3 by omega)]
    refine eq_true (Int32.lt_of_lt_of_le ?_ (nI_le (Nat.zero_le i) (by omega)))
    have q2 : n = 0 ∨ n = 1 ∨ n = 2 := by omega
    rcases q2 with q2 | q2 | q2
    · rw [q2]
      decide +kernel
    · rw [q2]
      decide +kernel
    · rw [q2]
      decide +kernel
  · rw [pk_sub (by omega)]
    by_cases q2 : n < i + 3
    · rw [eq_true q2]
      exact eq_true (nI_lt (by omega) (by omega))
    · rw [eq_false q2]
      exact eq_false (nI_nlt (by omega) (by omega))
end START
