abbrev vwCl : List vw_C := [(RX0, TX0, 2), (RX1, TX1, 12), (RX2, TX2, 11), (RX3, TX3, 11), (RX4, TX4, 13)]
/-! small words: bounded ints, arrays of them, the top of the stack under another name -/
def bd (n : Nat) (x : Int32) : Prop := ∃ j : Nat, j ≤ n ∧ x = nI j
def bdA (n N : Nat) (f : Nat → Int32) : Prop := ∀ i : Nat, i < N → bd n (f i)
theorem bdA_get {n N : Nat} {f : Nat → Int32} (h : bdA n N f) {i : Nat} (hi : i < N) (hN : N < 2 ^ 31) : bd n (f (nI i).toNatClampNeg) := by
  rw [nI_clamp (by omega)]; exact h i hi
theorem bdA_upd {n N : Nat} {f g : Nat → Int32} (h : bdA n N f) {i j : Nat} (e : upd f (nI i).toNatClampNeg (nI j) = g) (hj : j ≤ n) (hi : i < 2 ^ 31) : bdA n N g := by
  subst e
  intro k hk
  rw [nI_clamp hi]
  by_cases q : k = i
  · subst q; rw [pk_us]; exact ⟨j, hj, rfl⟩
  · rw [pk_un q]; exact h k hk
theorem bdA_0 {n N : Nat} : bdA n N (fun _ => 0) := fun _ _ => ⟨0, Nat.zero_le _, rfl⟩
theorem inc_n (t n : Nat) : nI t + Int32.ofInt (n : Int) = nI (t + n) := by
  rw [show Int32.ofInt (n : Int) = nI n from rfl]; exact nI_add t n
theorem dec_n (t : Nat) : nI (t + 1) + Int32.ofInt (-1) = nI t := by
  rw [show Int32.ofInt (-1) = (-1 : Int32) from by decide]; exact pk_m1 t
theorem dec_1 {t : Nat} (h : 1 ≤ t) : nI t + Int32.ofInt (-1) = nI (t - 1) := by
  obtain ⟨k, rfl⟩ : ∃ k, t = k + 1 := ⟨t - 1, by omega⟩
  exact dec_n k
def dn (t : Nat) : Int32 := nI t + Int32.ofInt (-1)
theorem dn_0 : dn 0 = -1 := by decide
theorem dn_s (t : Nat) : dn (t + 1) = nI t := dec_n t
theorem z_eq {a : Nat} (h : a < 2 ^ 31) : nI a = 0 ↔ a = 0 := by rw [← nI_0]; exact nI_eq h (by decide)
theorem z_lt {a : Nat} (h : a < 2 ^ 31) : nI a < 0 ↔ False := ⟨fun q => nI_pos h q, fun q => q.elim⟩
theorem z_ge {a : Nat} (h : a < 2 ^ 31) : 0 ≤ nI a ↔ True := ⟨fun _ => trivial, fun _ => nI_pos' h⟩
theorem z_gt {a : Nat} (h : a < 2 ^ 31) : 0 < nI a ↔ 0 < a := by rw [← nI_0]; exact nI_ltI (by decide) h
theorem z_le {a : Nat} (h : a < 2 ^ 31) : nI a ≤ 0 ↔ a = 0 := by rw [← nI_0, nI_leI h (by decide)]; omega
theorem mm_min {a b : Nat} (ha : a < 2 ^ 31) (hb : b < 2 ^ 31) : (if nI b < nI a then nI b else nI a) = nI (min a b) := by
  rw [Nat.min_def]
  by_cases h : b < a
  · rw [if_pos ((nI_ltI hb ha).mpr h), if_neg (by omega)]
  · rw [if_neg (fun q => h ((nI_ltI hb ha).mp q)), if_pos (by omega)]
theorem mm_max {a b : Nat} (ha : a < 2 ^ 31) (hb : b < 2 ^ 31) : (if nI a < nI b then nI b else nI a) = nI (max a b) := by
  rw [Nat.max_def]
  by_cases h : a < b
  · rw [if_pos ((nI_ltI ha hb).mpr h), if_pos (by omega)]
  · rw [if_neg (fun q => h ((nI_ltI ha hb).mp q))]
    by_cases h2 : a ≤ b
    · rw [if_pos h2, show a = b by omega]
    · rw [if_neg h2]
theorem tb_cases (x : Int32) {n : Nat} (hn : n < 2 ^ 31) : (∃ k : Nat, k ≤ n ∧ x = nI k) ∨ (x.toInt < 0 ∨ (n : Int) < x.toInt) := by
  rcases Int.lt_or_le x.toInt 0 with h | h
  · exact Or.inr (Or.inl h)
  · rcases Int.lt_or_le (n : Int) x.toInt with h2 | h2
    · exact Or.inr (Or.inr h2)
    · refine Or.inl ⟨x.toInt.toNat, by omega, ?_⟩
      apply Int32.toInt_inj.mp
      rw [nI_toInt (by omega)]
      omega
theorem rg_in {x a b : Int32} {n : Nat} (hb : b = nI n) (ha : a = 0) (hn : n < 2 ^ 31) (h1 : ¬ x < a) (h2 : ¬ b < x) : bd n x := by
  subst hb; subst ha
  rcases tb_cases x hn with h | h | h
  · exact h
  · exact absurd (Int32.lt_iff_toInt_lt.mpr (by simpa using h)) h1
  · exact absurd (Int32.lt_iff_toInt_lt.mpr (by rw [nI_toInt hn]; exact h)) h2
theorem sb_lt {a b : Nat} (ha : a < 2 ^ 30) (hb : b < 2 ^ 30) : nI a - nI b < 0 ↔ a < b := by
  rw [Int32.lt_iff_toInt_lt, pk_sub_toInt ha hb]
  first | (simp; done) | (simp; omega)
theorem sb_ge {a b : Nat} (ha : a < 2 ^ 30) (hb : b < 2 ^ 30) : 0 ≤ nI a - nI b ↔ b ≤ a := by
  rw [Int32.le_iff_toInt_le, pk_sub_toInt ha hb]
  first | (simp; done) | (simp; omega)
theorem mx_sub {a x j : Nat} (ha : a < 2 ^ 30) (hx : x < 2 ^ 30) (hj : j < 2 ^ 30) : (if nI a < nI x - nI j then nI x - nI j else nI a) = nI (max a (x - j)) := by
  by_cases h : j ≤ x
  · rw [pk_sub h]; exact mm_max (by omega) (by omega)
  · rw [if_neg, show max a (x - j) = a by omega]
    intro q
    rw [Int32.lt_iff_toInt_lt, pk_sub_toInt hx hj, nI_toInt (by omega)] at q
    omega
theorem dn_pos {t : Nat} (h : ¬ dn t < 0) : ∃ k, t = k + 1 := by
  cases t with
  | zero => exact absurd (by rw [dn_0]; decide) h
  | succ k => exact ⟨k, rfl⟩
theorem dn_ge {t x : Nat} (h : ¬ dn t < nI x) (hx : x < 2 ^ 31) : ∃ k, t = k + 1 := by
  cases t with
  | zero =>
    refine absurd ?_ h
    rw [dn_0, Int32.lt_iff_toInt_lt, nI_toInt hx, show (-1 : Int32).toInt = -1 from by decide]
    omega
  | succ k => exact ⟨k, rfl⟩
theorem dn_sub (t : Nat) : nI t - nI 1 = dn t := by
  rw [dn, show Int32.ofInt (-1) = -nI 1 from by decide, Int32.sub_eq_add_neg]
theorem x_lt {x : Int32} {n : Nat} (hn : n < 2 ^ 31) (h0 : ¬ x < 0) (h1 : ¬ nI n ≤ x) : ∃ j : Nat, j < n ∧ x = nI j := by
  rcases pk_ix x hn with h | h | h
  · exact absurd h h0
  · exact absurd h h1
  · exact h
theorem x_lt2 {x : Int32} {n : Nat} (hn : n < 2 ^ 31) (h0 : ¬ x < 0) (h1 : x < nI n) : ∃ j : Nat, j < n ∧ x = nI j :=
  x_lt hn h0 (fun h => absurd h (by rw [Int32.not_le]; exact h1))
theorem x_le {x : Int32} {n : Nat} (hn : n < 2 ^ 31 - 1) (h0 : ¬ x < 0) (h1 : ¬ nI n < x) : ∃ j : Nat, j ≤ n ∧ x = nI j := by
  rcases tb_cases x (n := n) (by omega) with h | h | h
  · exact h
  · exact absurd (Int32.lt_iff_toInt_lt.mpr (by simpa using h)) h0
  · exact absurd (Int32.lt_iff_toInt_lt.mpr (by rw [nI_toInt (by omega)]; exact h)) h1
/-! a state that lies in a row of cells, from b on -/
def okSt (g : Nat → Int32) (b : Nat) : Prop := bd 24 (g b) ∧ bd 60 (g (b + 1)) ∧ bd 9 (g (b + 2)) ∧ bd 9 (g (b + 3)) ∧ bd 12 (g (b + 8)) ∧ ∀ i : Nat, i < 24 → bd 60 (g (b + 9 + i))
def okSh (n : Nat) (g : Nat → Int32) : Prop := ∀ p : Nat, p < n → okSt g (p * 93)
theorem okSh_0 {n : Nat} : okSh n (fun _ => 0) := fun _ _ => ⟨⟨0, Nat.zero_le _, rfl⟩, ⟨0, Nat.zero_le _, rfl⟩, ⟨0, Nat.zero_le _, rfl⟩, ⟨0, Nat.zero_le _, rfl⟩, ⟨0, Nat.zero_le _, rfl⟩, fun _ _ => ⟨0, Nat.zero_le _, rfl⟩⟩
theorem okSt_cl {g : Nat → Int32} {b n : Nat} (h : bd n (g b)) (hb : b < 2 ^ 31) : bd n (g (nI b).toNatClampNeg) := by rw [nI_clamp hb]; exact h
theorem okSt_w {a ov st tk gv lc : Nat} {hc ew sl ca : Int32} {rm lw cg f1 f2 f3 f4 f5 f6 f7 f8 f9 g1 g2 : Nat → Int32} (ha : a + 93 < 2 ^ 31) (h0 : ov ≤ 24) (h1 : st ≤ 60) (h2 : tk ≤ 9) (h3 : gv ≤ 9) (h8 : lc ≤ 12) (hr : bdA 60 24 rm)
    (e1 : upd cg (nI a).toNatClampNeg (nI ov) = f1) (e2 : upd f1 (nI (a + 1)).toNatClampNeg (nI st) = f2) (e3 : upd f2 (nI (a + 2)).toNatClampNeg (nI tk) = f3) (e4 : upd f3 (nI (a + 3)).toNatClampNeg (nI gv) = f4) (e5 : upd f4 (nI (a + 4)).toNatClampNeg hc = f5) (e6 : upd f5 (nI (a + 5)).toNatClampNeg ew = f6) (e7 : upd f6 (nI (a + 6)).toNatClampNeg sl = f7) (e8 : upd f7 (nI (a + 7)).toNatClampNeg ca = f8) (e9 : upd f8 (nI (a + 8)).toNatClampNeg (nI lc) = f9)
    (e10 : va_cpy rm f9 0 (a + 9) 24 = g1) (e11 : va_cpy lw g1 0 (a + 9 + 24) 60 = g2) : okSt g2 a ∧ ∀ q : Nat, q < a ∨ a + 93 ≤ q → g2 q = cg q := by
  rw [nI_clamp (by omega)] at e1 e2 e3 e4 e5 e6 e7 e8 e9
  have hg2 : ∀ q, q < a + 33 ∨ a + 93 ≤ q → g2 q = g1 q := fun q h => by subst e11; exact pk_cpy_out (by omega)
  have hg1 : ∀ q, q < a + 9 ∨ a + 33 ≤ q → g1 q = f9 q := fun q h => by subst e10; exact pk_cpy_out (by omega)
  have k1 : ∀ q, q ≠ a → f1 q = cg q := fun q h => by subst e1; exact pk_un h
  have k2 : ∀ q, q ≠ a + 1 → f2 q = f1 q := fun q h => by subst e2; exact pk_un h
  have k3 : ∀ q, q ≠ a + 2 → f3 q = f2 q := fun q h => by subst e3; exact pk_un h
  have k4 : ∀ q, q ≠ a + 3 → f4 q = f3 q := fun q h => by subst e4; exact pk_un h
  have k5 : ∀ q, q ≠ a + 4 → f5 q = f4 q := fun q h => by subst e5; exact pk_un h
  have k6 : ∀ q, q ≠ a + 5 → f6 q = f5 q := fun q h => by subst e6; exact pk_un h
  have k7 : ∀ q, q ≠ a + 6 → f7 q = f6 q := fun q h => by subst e7; exact pk_un h
  have k8 : ∀ q, q ≠ a + 7 → f8 q = f7 q := fun q h => by subst e8; exact pk_un h
  have k9 : ∀ q, q ≠ a + 8 → f9 q = f8 q := fun q h => by subst e9; exact pk_un h
  have v1 : f1 a = nI ov := by subst e1; exact pk_us
  have v2 : f2 (a + 1) = nI st := by subst e2; exact pk_us
  have v3 : f3 (a + 2) = nI tk := by subst e3; exact pk_us
  have v4 : f4 (a + 3) = nI gv := by subst e4; exact pk_us
  have v9 : f9 (a + 8) = nI lc := by subst e9; exact pk_us
  refine ⟨⟨⟨ov, h0, ?_⟩, ⟨st, h1, ?_⟩, ⟨tk, h2, ?_⟩, ⟨gv, h3, ?_⟩, ⟨lc, h8, ?_⟩, fun i hi => ?_⟩, fun q hq => ?_⟩
  · rw [hg2 _ (by omega), hg1 _ (by omega), k9 _ (by omega), k8 _ (by omega), k7 _ (by omega), k6 _ (by omega), k5 _ (by omega), k4 _ (by omega), k3 _ (by omega), k2 _ (by omega), v1]
  · rw [hg2 _ (by omega), hg1 _ (by omega), k9 _ (by omega), k8 _ (by omega), k7 _ (by omega), k6 _ (by omega), k5 _ (by omega), k4 _ (by omega), k3 _ (by omega), v2]
  · rw [hg2 _ (by omega), hg1 _ (by omega), k9 _ (by omega), k8 _ (by omega), k7 _ (by omega), k6 _ (by omega), k5 _ (by omega), k4 _ (by omega), v3]
  · rw [hg2 _ (by omega), hg1 _ (by omega), k9 _ (by omega), k8 _ (by omega), k7 _ (by omega), k6 _ (by omega), k5 _ (by omega), v4]
  · rw [hg2 _ (by omega), hg1 _ (by omega), v9]
  · rw [hg2 _ (by omega), ← e10, pk_cpy_in (by omega) (by omega), show 0 + (a + 9 + i - (a + 9)) = i by omega]
    exact hr i hi
  · rw [hg2 _ (by omega), hg1 _ (by omega), k9 _ (by omega), k8 _ (by omega), k7 _ (by omega), k6 _ (by omega), k5 _ (by omega), k4 _ (by omega), k3 _ (by omega), k2 _ (by omega), k1 _ (by omega)]
theorem okSt_rm {cg rm g : Nat → Int32} {a : Nat} (h : okSt cg a) (e : va_cpy cg rm (a + 9) 0 24 = g) : bdA 60 24 g := by
  subst e
  intro i hi
  rw [pk_cpy_in (by omega) (by omega), show a + 9 + (i - 0) = a + 9 + i by omega]
  exact h.2.2.2.2.2 i hi
theorem okSt_same {f g : Nat → Int32} {b : Nat} (h : okSt f b) (e : ∀ q, b ≤ q → q < b + 93 → g q = f q) : okSt g b := by
  obtain ⟨h0, h1, h2, h3, h4, h5⟩ := h
  refine ⟨?_, ?_, ?_, ?_, ?_, fun i hi => ?_⟩
  · rw [e _ (by omega) (by omega)]; exact h0
  · rw [e _ (by omega) (by omega)]; exact h1
  · rw [e _ (by omega) (by omega)]; exact h2
  · rw [e _ (by omega) (by omega)]; exact h3
  · rw [e _ (by omega) (by omega)]; exact h4
  · rw [e _ (by omega) (by omega)]; exact h5 i hi
theorem okSh_put {n : Nat} {f g : Nat → Int32} {j : Nat} (h : okSh n f) (hj : okSt g (j * 93)) (e : ∀ q, q < j * 93 ∨ j * 93 + 93 ≤ q → g q = f q) : okSh n g := by
  intro p hp
  by_cases q : p = j
  · subst q; exact hj
  · exact okSt_same (h p hp) (fun r h1 h2 => e r (by rcases Nat.lt_or_gt_of_ne q with h | h <;> omega))
theorem b_0 {r : Int32} {F G : Prop} (h : (r = 0 ∧ F) ∨ (r = 1 ∧ G)) (c : r = 0) : F := by
  rcases h with h | h
  · exact h.2
  · rw [c] at h; exact absurd h.1 (by decide)
theorem b_1 {r : Int32} {F G : Prop} (h : (r = 0 ∧ F) ∨ (r = 1 ∧ G)) (c : ¬ r = 0) : G := by
  rcases h with h | h
  · exact absurd h.1 c
  · exact h.2
theorem rg_0 {x : Int32} {n : Nat} (hn : n < 2 ^ 31) (h : ¬ x < nI 0 ∧ ¬ nI n < x) : bd n x := rg_in rfl nI_0 hn h.1 h.2
theorem rg_1 {x : Int32} {n : Nat} (hn : n < 2 ^ 31) (h : ¬ x < nI 1 ∧ ¬ nI n < x) : bd n x := by
  refine rg_in rfl rfl hn (fun q => h.1 ?_) h.2
  rw [Int32.lt_iff_toInt_lt] at q ⊢
  rw [nI_toInt (by decide)]
  simp at q
  omega
theorem idx_no {i : Int32} {n : Nat} (hn : n < 2 ^ 31) (h : i < 0 ∨ nI n ≤ i) : ¬ ∃ j : Nat, j < n ∧ i = nI j := by
  rintro ⟨j, hj, rfl⟩
  rcases h with h | h
  · exact nI_pos (by omega) h
  · have := (nI_leI (by omega) (by omega)).mp h
    omega
theorem idx_no_isHour {i : Int32} (h : i < 0 ∨ nI 24 ≤ i) : ¬ ∃ j : Nat, j < 24 ∧ i = nI j := idx_no (by decide) h
theorem idx_no_isImage {i : Int32} (h : i < 0 ∨ nI 2 ≤ i) : ¬ ∃ j : Nat, j < 2 ∧ i = nI j := idx_no (by decide) h
theorem idx_no_isHourOrEnd {i : Int32} (h : i < 0 ∨ nI 24 < i) : ¬ ∃ j : Nat, j ≤ 24 ∧ i = nI j := by
  rintro ⟨j, hj, rfl⟩
  rcases h with h | h
  · exact nI_pos (by omega) h
  · have := (nI_ltI (by omega) (by omega)).mp h
    omega
/-- what keep answers; which images are kept then; what goBack answers -/
def kpRes (i : Int32) : Int32 := if i = 0 ∨ i = 1 then 1 else -1000000001
def kpNew (i : Int32) (kp : Nat → Int32) : Nat → Int32 := if i = 0 ∨ i = 1 then upd kp i.toNatClampNeg 1 else kp
def gbRes (i : Int32) (kp : Nat → Int32) : Int32 := if i = 0 ∨ i = 1 then (if kp i.toNatClampNeg = 0 then -1000000003 else 1) else -1000000001
theorem im_in {j : Nat} (h : j < 2) : nI j = 0 ∨ nI j = 1 := by
  rcases (show j = 0 ∨ j = 1 by omega) with rfl | rfl
  · exact Or.inl rfl
  · exact Or.inr rfl
theorem im_out {i : Int32} (h : ¬ ∃ j : Nat, j < 2 ∧ i = nI j) : ¬ (i = 0 ∨ i = 1) := by
  rintro (q | q)
  · exact h ⟨0, by decide, q⟩
  · exact h ⟨1, by decide, q⟩
section TPS
variable {p : Program} {l : Launch} {e : Env} {R : Room} {s : State} {m : MethodId} {args : Array Value} {below : List Frame} {meth : Method} {c : Code} {H : Heap} {locs : List Loc} {cells slots : Nat} {Q : State → Prop} {pc : Nat} {ls : Array Slot} {rest : List Value}
theorem tp_any {x : Int32} (k : ∀ y : Int32, W p l e R s m args below meth c H locs cells slots Q (F0 m pc ls (.int y :: rest))) : W p l e R s m args below meth c H locs cells slots Q (F0 m pc ls (.int x :: rest)) := k x
theorem tp_as {x y : Int32} (h : x = y) (k : W p l e R s m args below meth c H locs cells slots Q (F0 m pc ls (.int y :: rest))) : W p l e R s m args below meth c H locs cells slots Q (F0 m pc ls (.int x :: rest)) := by rw [h]; exact k
end TPS
