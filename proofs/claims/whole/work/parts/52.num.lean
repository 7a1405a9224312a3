/-! numbers as simp rows with side conditions; the model's object by a valuation of its int fields; frames -/
theorem z_lt {a b : Nat} (h : a < b) (hb : b < 2 ^ 31) : (nI a < nI b) = True := eq_true (nI_lt h hb)
theorem z_nlt {a b : Nat} (h : b ≤ a) (ha : a < 2 ^ 31) : (nI a < nI b) = False := eq_false (nI_nlt h ha)
theorem z_le {a b : Nat} (h : a ≤ b) (hb : b < 2 ^ 31) : (nI a ≤ nI b) = True := eq_true (nI_le h hb)
theorem z_nle {a b : Nat} (h : b < a) (ha : a < 2 ^ 31) : (nI a ≤ nI b) = False := eq_false (nI_ge h ha)
theorem z_ne {a b : Nat} (h : ¬ a = b) (ha : a < 2 ^ 31) (hb : b < 2 ^ 31) : (nI a = nI b) = False := eq_false (fun e => h (by have := congrArg Int32.toNatClampNeg e; rwa [nI_clamp ha, nI_clamp hb] at this))
theorem z_eq {a b : Nat} (h : a = b) : (nI a = nI b) = True := eq_true (by rw [h])
theorem z_in {j n : Nat} (h : j < n) (hn : n < 2 ^ 31) : (db_in (nI j) n = true) = True := eq_true (in_nI h hn)
theorem z_sub {a b : Nat} (h : b ≤ a) : nI a - nI b = nI (a - b) := pk_sub h
theorem z_dec {a : Nat} (h : 1 ≤ a) : nI a + Int32.ofInt (-1) = nI (a - 1) := by rw [m1_ofInt]; exact nI_addm a 1 h
theorem z_dec8 {a : Nat} (h : 8 ≤ a) : nI a + Int32.ofInt (-8) = nI (a - 8) := by rw [m8_ofInt]; exact nI_addm a 8 h
theorem z_mul (a b : Nat) : nI a * nI b = nI (a * b) := (Int32.ofNat_mul a b).symm
theorem z_div {a b : Nat} (ha : a < 2 ^ 31) (h0 : 0 < b) (hb : b < 2 ^ 31) : nI a / nI b = nI (a / b) := pk_div ha h0 hb
theorem z_mod (a b : Nat) : a - a / b * b = a % b := (Nat.mod_eq_sub_div_mul).symm
theorem z_add1 {a : Nat} : nI a + 1 = nI (a + 1) := (nI_succ a).symm
theorem z_max {a b : Nat} (ha : a < 2 ^ 31) (hb : b < 2 ^ 31) : (if nI a < nI b then nI b else nI a) = nI (max a b) := by
  by_cases h : a < b
  · rw [if_pos (nI_lt h hb), Nat.max_eq_right (by omega)]
  · rw [if_neg (nI_nlt (by omega) ha), Nat.max_eq_left (by omega)]
theorem z_min {a b : Nat} (ha : a < 2 ^ 31) (hb : b < 2 ^ 31) : (if nI b < nI a then nI b else nI a) = nI (min a b) := by
  by_cases h : b < a
  · rw [if_pos (nI_lt h ha), Nat.min_eq_right (by omega)]
  · rw [if_neg (nI_nlt (by omega) hb), Nat.min_eq_left (by omega)]
def hset (h : db_H) (r : Nat) (b : db_C) : db_H := h.set r b
theorem hset_eq {h : db_H} {r : Nat} {b : db_C} : hset h r b = h.set r b := rfl
theorem hs_sort {h : db_H} {o r : Nat} {a b : db_C} (hn : r < o) : (h.set o a).set r b = (hset h r b).set o a := hs_comm (by omega)
/-- a valuation, changed at k -/
def vup (M : Nat → Int32) (k : Nat) (x : Int32) : Nat → Int32 := fun j => if j = k then x else M j
theorem vup_at {M : Nat → Int32} {k : Nat} {x : Int32} : vup M k x k = x := if_pos rfl
theorem vup_ne {M : Nat → Int32} {j k : Nat} {x : Int32} (h : ¬ j = k) : vup M k x j = M j := if_neg h
theorem vup_over {M : Nat → Int32} {k : Nat} {x y : Int32} : vup (vup M k x) k y = vup M k y := by
  funext j
  unfold vup
  split <;> simp
def vupp (M : Nat → Int32) (k : Nat) (x : Int32) : Nat → Int32 := vup M k x
theorem vupp_eq {M : Nat → Int32} {k : Nat} {x : Int32} : vupp M k x = vup M k x := rfl
theorem vup_sort {M : Nat → Int32} {k r : Nat} {x y : Int32} (h : r < k) : vup (vup M k x) r y = vup (vupp M r y) k x := by
  funext j
  unfold vupp vup
  by_cases h1 : j = r
  · have : ¬ j = k := by omega
    simp [h1, show ¬ r = k by omega]
  · simp [h1]
theorem vup_self {M : Nat → Int32} {k : Nat} {x : Int32} (h : M k = x) : vup M k x = M := by
  funext j
  unfold vup
  split
  · rename_i e
    rw [e, h]
  · rfl
def mfs (M : Nat → Int32) : List Value := [.ref 128, .int (M 1), .ref 129, .int (M 3), .ref 130, .int (M 5), .int (M 6), .ref 131, .ref 132, .ref 133, .ref 134, .ref 135, .int (M 12), .ref 136, .ref 137, .ref 138, .int (M 16), .ref 139, .ref 140, .ref 141, .int (M 20), .ref 142, .ref 143, .ref 144, .ref 145, .ref 146, .int (M 26), .ref 147, .ref 148, .ref 149, .ref 150, .ref 151, .ref 152, .ref 153, .int (M 34), .ref 154, .ref 155, .ref 156, .ref 157, .ref 158, .ref 159, .ref 160, .int (M 42), .ref 161, .ref 162, .ref 163, .int (M 46), .int (M 47), .int (M 48), .ref 164, .int (M 50)]
theorem mfs_len {M : Nat → Int32} : (mfs M).length = 51 := rfl
theorem mg_0 {M : Nat → Int32} : (mfs M)[0]? = some (.ref 128) := rfl
theorem mg_1 {M : Nat → Int32} : (mfs M)[1]? = some (.int (M 1)) := rfl
theorem mg_2 {M : Nat → Int32} : (mfs M)[2]? = some (.ref 129) := rfl
theorem mg_3 {M : Nat → Int32} : (mfs M)[3]? = some (.int (M 3)) := rfl
theorem mg_4 {M : Nat → Int32} : (mfs M)[4]? = some (.ref 130) := rfl
theorem mg_5 {M : Nat → Int32} : (mfs M)[5]? = some (.int (M 5)) := rfl
theorem mg_6 {M : Nat → Int32} : (mfs M)[6]? = some (.int (M 6)) := rfl
theorem mg_7 {M : Nat → Int32} : (mfs M)[7]? = some (.ref 131) := rfl
theorem mg_8 {M : Nat → Int32} : (mfs M)[8]? = some (.ref 132) := rfl
theorem mg_9 {M : Nat → Int32} : (mfs M)[9]? = some (.ref 133) := rfl
theorem mg_10 {M : Nat → Int32} : (mfs M)[10]? = some (.ref 134) := rfl
theorem mg_11 {M : Nat → Int32} : (mfs M)[11]? = some (.ref 135) := rfl
theorem mg_12 {M : Nat → Int32} : (mfs M)[12]? = some (.int (M 12)) := rfl
theorem mg_13 {M : Nat → Int32} : (mfs M)[13]? = some (.ref 136) := rfl
theorem mg_14 {M : Nat → Int32} : (mfs M)[14]? = some (.ref 137) := rfl
theorem mg_15 {M : Nat → Int32} : (mfs M)[15]? = some (.ref 138) := rfl
theorem mg_16 {M : Nat → Int32} : (mfs M)[16]? = some (.int (M 16)) := rfl
theorem mg_17 {M : Nat → Int32} : (mfs M)[17]? = some (.ref 139) := rfl
theorem mg_18 {M : Nat → Int32} : (mfs M)[18]? = some (.ref 140) := rfl
theorem mg_19 {M : Nat → Int32} : (mfs M)[19]? = some (.ref 141) := rfl
theorem mg_20 {M : Nat → Int32} : (mfs M)[20]? = some (.int (M 20)) := rfl
theorem mg_21 {M : Nat → Int32} : (mfs M)[21]? = some (.ref 142) := rfl
theorem mg_22 {M : Nat → Int32} : (mfs M)[22]? = some (.ref 143) := rfl
theorem mg_23 {M : Nat → Int32} : (mfs M)[23]? = some (.ref 144) := rfl
theorem mg_24 {M : Nat → Int32} : (mfs M)[24]? = some (.ref 145) := rfl
theorem mg_25 {M : Nat → Int32} : (mfs M)[25]? = some (.ref 146) := rfl
theorem mg_26 {M : Nat → Int32} : (mfs M)[26]? = some (.int (M 26)) := rfl
theorem mg_27 {M : Nat → Int32} : (mfs M)[27]? = some (.ref 147) := rfl
theorem mg_28 {M : Nat → Int32} : (mfs M)[28]? = some (.ref 148) := rfl
theorem mg_29 {M : Nat → Int32} : (mfs M)[29]? = some (.ref 149) := rfl
theorem mg_30 {M : Nat → Int32} : (mfs M)[30]? = some (.ref 150) := rfl
theorem mg_31 {M : Nat → Int32} : (mfs M)[31]? = some (.ref 151) := rfl
theorem mg_32 {M : Nat → Int32} : (mfs M)[32]? = some (.ref 152) := rfl
theorem mg_33 {M : Nat → Int32} : (mfs M)[33]? = some (.ref 153) := rfl
theorem mg_34 {M : Nat → Int32} : (mfs M)[34]? = some (.int (M 34)) := rfl
theorem mg_35 {M : Nat → Int32} : (mfs M)[35]? = some (.ref 154) := rfl
theorem mg_36 {M : Nat → Int32} : (mfs M)[36]? = some (.ref 155) := rfl
theorem mg_37 {M : Nat → Int32} : (mfs M)[37]? = some (.ref 156) := rfl
theorem mg_38 {M : Nat → Int32} : (mfs M)[38]? = some (.ref 157) := rfl
theorem mg_39 {M : Nat → Int32} : (mfs M)[39]? = some (.ref 158) := rfl
theorem mg_40 {M : Nat → Int32} : (mfs M)[40]? = some (.ref 159) := rfl
theorem mg_41 {M : Nat → Int32} : (mfs M)[41]? = some (.ref 160) := rfl
theorem mg_42 {M : Nat → Int32} : (mfs M)[42]? = some (.int (M 42)) := rfl
theorem mg_43 {M : Nat → Int32} : (mfs M)[43]? = some (.ref 161) := rfl
theorem mg_44 {M : Nat → Int32} : (mfs M)[44]? = some (.ref 162) := rfl
theorem mg_45 {M : Nat → Int32} : (mfs M)[45]? = some (.ref 163) := rfl
theorem mg_46 {M : Nat → Int32} : (mfs M)[46]? = some (.int (M 46)) := rfl
theorem mg_47 {M : Nat → Int32} : (mfs M)[47]? = some (.int (M 47)) := rfl
theorem mg_48 {M : Nat → Int32} : (mfs M)[48]? = some (.int (M 48)) := rfl
theorem mg_49 {M : Nat → Int32} : (mfs M)[49]? = some (.ref 164) := rfl
theorem mg_50 {M : Nat → Int32} : (mfs M)[50]? = some (.int (M 50)) := rfl
theorem ms_1 {M : Nat → Int32} {x : Int32} : (mfs M).set 1 (.int x) = mfs (vup M 1 x) := rfl
theorem ms_3 {M : Nat → Int32} {x : Int32} : (mfs M).set 3 (.int x) = mfs (vup M 3 x) := rfl
theorem ms_5 {M : Nat → Int32} {x : Int32} : (mfs M).set 5 (.int x) = mfs (vup M 5 x) := rfl
theorem ms_6 {M : Nat → Int32} {x : Int32} : (mfs M).set 6 (.int x) = mfs (vup M 6 x) := rfl
theorem ms_12 {M : Nat → Int32} {x : Int32} : (mfs M).set 12 (.int x) = mfs (vup M 12 x) := rfl
theorem ms_16 {M : Nat → Int32} {x : Int32} : (mfs M).set 16 (.int x) = mfs (vup M 16 x) := rfl
theorem ms_20 {M : Nat → Int32} {x : Int32} : (mfs M).set 20 (.int x) = mfs (vup M 20 x) := rfl
theorem ms_26 {M : Nat → Int32} {x : Int32} : (mfs M).set 26 (.int x) = mfs (vup M 26 x) := rfl
theorem ms_34 {M : Nat → Int32} {x : Int32} : (mfs M).set 34 (.int x) = mfs (vup M 34 x) := rfl
theorem ms_42 {M : Nat → Int32} {x : Int32} : (mfs M).set 42 (.int x) = mfs (vup M 42 x) := rfl
theorem ms_46 {M : Nat → Int32} {x : Int32} : (mfs M).set 46 (.int x) = mfs (vup M 46 x) := rfl
theorem ms_47 {M : Nat → Int32} {x : Int32} : (mfs M).set 47 (.int x) = mfs (vup M 47 x) := rfl
theorem ms_48 {M : Nat → Int32} {x : Int32} : (mfs M).set 48 (.int x) = mfs (vup M 48 x) := rfl
theorem ms_50 {M : Nat → Int32} {x : Int32} : (mfs M).set 50 (.int x) = mfs (vup M 50 x) := rfl
theorem n5_ge {k : Nat} (h : 5 ≤ k) : ¬ k < db_n := by show ¬ k < 5; omega
theorem n5_f {k : Nat} (h : 5 ≤ k) : (k < db_n) = False := eq_false (n5_ge h)
section G5
variable {y pc : Nat} {L S : List Value} {h : db_H} {P : Option Value → db_H → Prop}
theorem gx5 {ci k o : Nat} {fs : List Value} (ho : 5 ≤ o) : db_Gs y L h P (db_gx ci k pc o (some (.inr (ci, fs))) L S h) ↔ db_Gs y L h P (db_fx pc fs[k]? L S h) := gs_gx (n5_ge ho)
theorem px5 {ci k kd o : Nat} {fs : List Value} {v : Value} (ho : 5 ≤ o) : db_Gs y L h P (db_px ci k kd pc v o (some (.inr (ci, fs))) L S h) ↔ (k < fs.length ∧ db_ft kd v = true) ∧ db_Go y pc L S (h.set o (.inr (ci, fs.set k v))) P := gs_px (n5_ge ho)
theorem sx5 {t o : Nat} {x i : Int32} {l : List Int32} (ho : 5 ≤ o) : db_Gs y L h P (db_sx t pc x i o (some (.inl (t, l))) L S h) ↔ (db_in i l.length = true ∧ db_ft t (.int x) = true) ∧ db_Go y pc L S (h.set o (.inl (t, l.set i.toNatClampNeg x))) P := gs_sx (n5_ge ho)
end G5
/-- what may have changed: the cells F -/
def Fr (F : List Nat) (h h2 : db_H) : Prop := h2.length = h.length ∧ ∀ k, k < h.length → k ∉ F → h2[k]? = h[k]?
theorem Fr_refl {F : List Nat} {h : db_H} : Fr F h h := ⟨rfl, fun _ _ _ => rfl⟩
theorem Fr_trans {F G : List Nat} {h h2 h3 : db_H} (a : Fr F h h2) (b : Fr G h2 h3) (hs : ∀ k, k ∈ F ∨ k ∈ G → k ∈ G) : Fr G h h3 := ⟨b.1.trans a.1, fun k hk hn => (b.2 k (by have := a.1; omega) hn).trans (a.2 k hk (fun hF => hn (hs k (Or.inl hF))))⟩
theorem Fr_tr {F : List Nat} {h h2 h3 : db_H} (a : Fr F h h2) (b : Fr F h2 h3) : Fr F h h3 := Fr_trans a b (fun _ q => q.elim id id)
theorem Fr_mono {F G : List Nat} {h h2 : db_H} (a : Fr F h h2) (hs : ∀ k, k ∈ F → k ∈ G) : Fr G h h2 := ⟨a.1, fun k hk hn => a.2 k hk (fun q => hn (hs k q))⟩
theorem Fr_get {F : List Nat} {h h2 : db_H} {k : Nat} {c : db_C} (a : Fr F h h2) (hn : k ∉ F) (e : h[k]? = some c) : h2[k]? = some c := (a.2 k (List.getElem?_eq_some_iff.mp e).1 hn).trans e
theorem Fr_set {F : List Nat} {h : db_H} {k : Nat} {c : db_C} (hk : k ∈ F) : Fr F h (h.set k c) := ⟨by simp, fun j hj hn => hs_ne (fun e => hn (e ▸ hk))⟩
theorem Fr_len {F : List Nat} {h h2 : db_H} {n : Nat} (a : Fr F h h2) (hn : n < h.length) : n < h2.length := by rw [a.1]; exact hn
theorem Fr_s {F : List Nat} {h h2 : db_H} {k : Nat} {c : db_C} (a : Fr F h h2) (hk : k ∈ F) : Fr F h (h2.set k c) := Fr_tr a (Fr_set hk)
