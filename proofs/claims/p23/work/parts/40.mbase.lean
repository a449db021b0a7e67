/-! ===== the reference: what lies in its rows, and what its prices and levels are ===== -/
def okN (n : Nat → Int32) : Prop := bd 24 (n 0) ∧ bd 60 (n 1) ∧ bd 9 (n 2) ∧ bd 9 (n 3) ∧ bd 12 (n 7) ∧ ∀ i : Nat, i < 24 → bd 60 (n (68 + i))
def okB (k : Nat) (g : Nat → Int32) : Prop := ∀ p : Nat, p < k → okN (fun q => g (93 * p + q))
def okW (i : Nat) (x : Int32) : Prop := (i = 0 → bd 24 x) ∧ (i = 1 → bd 60 x) ∧ (i = 2 → bd 9 x) ∧ (i = 3 → bd 9 x) ∧ (i = 7 → bd 12 x) ∧ (68 ≤ i → i < 92 → bd 60 x)
theorem cl_at {f : Nat → Int32} {i : Nat} (h : i < 2 ^ 31) : f (nI i).toNatClampNeg = f i := by rw [nI_clamp h]
theorem cl_as {f : Nat → Int32} {i : Nat} {x : Int32} (h : i < 2 ^ 31) (e : f i = x) : f (nI i).toNatClampNeg = x := by rw [nI_clamp h]; exact e
theorem upd_at {f g : Nat → Int32} {i k : Nat} {x : Int32} (e : upd f (nI i).toNatClampNeg x = g) (hi : i < 2 ^ 31) (hk : k ≠ i) : g k = f k := by
  subst e; rw [nI_clamp hi]; exact pk_un hk
theorem upd_self {f g : Nat → Int32} {i : Nat} {x : Int32} (e : upd f (nI i).toNatClampNeg x = g) (hi : i < 2 ^ 31) : g i = x := by
  subst e; rw [nI_clamp hi]; exact pk_us
theorem okN_upd {f g : Nat → Int32} {i : Nat} {x : Int32} (h : okN f) (e : upd f (nI i).toNatClampNeg x = g) (hi : i < 2 ^ 31) (c : okW i x) : okN g := by
  have key : ∀ k, g k = if k = i then x else f k := fun k => by
    subst e; rw [nI_clamp hi]; rfl
  obtain ⟨h0, h1, h2, h3, h4, h5⟩ := h
  obtain ⟨c0, c1, c2, c3, c4, c5⟩ := c
  refine ⟨?_, ?_, ?_, ?_, ?_, fun k hk => ?_⟩
  · rw [key]; split
    · exact c0 (by omega)
    · exact h0
  · rw [key]; split
    · exact c1 (by omega)
    · exact h1
  · rw [key]; split
    · exact c2 (by omega)
    · exact h2
  · rw [key]; split
    · exact c3 (by omega)
    · exact h3
  · rw [key]; split
    · exact c4 (by omega)
    · exact h4
  · rw [key]; split
    · exact c5 (by omega) (by omega)
    · exact h5 k hk
theorem okN_eq {f g : Nat → Int32} (h : okN f) (e : ∀ q, q < 92 → g q = f q) : okN g := by
  obtain ⟨h0, h1, h2, h3, h4, h5⟩ := h
  refine ⟨?_, ?_, ?_, ?_, ?_, fun i hi => ?_⟩
  · rw [e _ (by omega)]; exact h0
  · rw [e _ (by omega)]; exact h1
  · rw [e _ (by omega)]; exact h2
  · rw [e _ (by omega)]; exact h3
  · rw [e _ (by omega)]; exact h4
  · rw [e _ (by omega)]; exact h5 i hi
theorem okN_far {f g : Nat → Int32} (h : okN f) (e : ∀ q, q < 8 ∨ 68 ≤ q → g q = f q) : okN g := by
  obtain ⟨h0, h1, h2, h3, h4, h5⟩ := h
  refine ⟨?_, ?_, ?_, ?_, ?_, fun i hi => ?_⟩
  · rw [e _ (by omega)]; exact h0
  · rw [e _ (by omega)]; exact h1
  · rw [e _ (by omega)]; exact h2
  · rw [e _ (by omega)]; exact h3
  · rw [e _ (by omega)]; exact h4
  · rw [e _ (by omega)]; exact h5 i hi
theorem okN_cpy {f d g : Nat → Int32} {b : Nat} (h : okN (fun q => f (b + q))) (e : g = va_cpy f d b 0 93) : okN g := by
  refine okN_eq h (fun q hq => ?_)
  rw [e, pk_cpy_in (by omega) (by omega), show q - 0 = q by omega]
theorem okB_put {k : Nat} {n f g : Nat → Int32} {b : Nat} (h : okB k f) (hn : okN n) (e : g = va_cpy n f 0 (93 * b) 93) : okB k g := by
  intro p hp
  by_cases q : p = b
  · subst q
    refine okN_eq hn (fun r hr => ?_)
    show g (93 * p + r) = n r
    rw [e, pk_cpy_in (by omega) (by omega), show 0 + (93 * p + r - 93 * p) = r by omega]
  · refine okN_eq (h p hp) (fun r hr => ?_)
    show g (93 * p + r) = f (93 * p + r)
    rw [e, pk_cpy_out]
    rcases Nat.lt_or_gt_of_ne q with z | z <;> omega
theorem okB_shift {f g : Nat → Int32} (h : okB 40 f) (e : g = va_cpy f f 93 0 3627) : okB 40 g := by
  intro p hp
  by_cases q : p < 39
  · refine okN_eq (h (p + 1) (by omega)) (fun r hr => ?_)
    show g (93 * p + r) = f (93 * (p + 1) + r)
    rw [e, pk_cpy_in (by omega) (by omega)]
    congr 1; omega
  · refine okN_eq (h p hp) (fun r hr => ?_)
    show g (93 * p + r) = f (93 * p + r)
    rw [e, pk_cpy_out]; omega
theorem okB_0 {k : Nat} : okB k (fun _ => 0) := fun _ _ => ⟨⟨0, Nat.zero_le _, rfl⟩, ⟨0, Nat.zero_le _, rfl⟩, ⟨0, Nat.zero_le _, rfl⟩, ⟨0, Nat.zero_le _, rfl⟩, ⟨0, Nat.zero_le _, rfl⟩, fun _ _ => ⟨0, Nat.zero_le _, rfl⟩⟩
theorem okN_0 : okN (fun _ => 0) := ⟨⟨0, Nat.zero_le _, rfl⟩, ⟨0, Nat.zero_le _, rfl⟩, ⟨0, Nat.zero_le _, rfl⟩, ⟨0, Nat.zero_le _, rfl⟩, ⟨0, Nat.zero_le _, rfl⟩, fun _ _ => ⟨0, Nat.zero_le _, rfl⟩⟩
theorem cpy_0 {f g : Nat → Int32} {sp dp : Nat} : g = va_cpy f g sp dp 0 := by
  funext k; rw [pk_cpy_out (by omega)]
theorem cpy_step {f g v w : Nat → Int32} {sp dp i : Nat} {y : Int32} (hv : v = va_cpy f g sp dp i) (e : upd v (nI (dp + i)).toNatClampNeg y = w) (ey : y = f (nI (sp + i)).toNatClampNeg) (h1 : dp + i < 2 ^ 31) (h2 : sp + i < 2 ^ 31) : w = va_cpy f g sp dp (i + 1) := by
  funext k
  by_cases q : k = dp + i
  · subst q
    rw [upd_self e h1, ey, nI_clamp h2, pk_cpy_in (by omega) (by omega)]
    congr 1; omega
  · rw [upd_at e h1 q, hv]
    by_cases z : dp ≤ k ∧ k < dp + i
    · rw [pk_cpy_in z.1 z.2, pk_cpy_in z.1 (by omega)]
    · rw [pk_cpy_out (by omega), pk_cpy_out (by omega)]
theorem cpy_step_s {f v w : Nat → Int32} {sp dp i : Nat} {y : Int32} (hv : v = va_cpy f f sp dp i) (e : upd v (nI (dp + i)).toNatClampNeg y = w) (ey : y = v (nI (sp + i)).toNatClampNeg) (h1 : dp + i < 2 ^ 31) (h2 : sp + i < 2 ^ 31) (h3 : dp ≤ sp) : w = va_cpy f f sp dp (i + 1) := by
  refine cpy_step hv e (y := y) ?_ h1 h2
  rw [ey, nI_clamp h2, hv, pk_cpy_out (by omega)]
theorem in_idx {r v : Int32} {n : Nat} (hn : n < 2 ^ 31 - 1) (h : (r = 0 ∧ (v < nI 0 ∨ nI n < v)) ∨ (r = 1 ∧ (¬ v < nI 0 ∧ ¬ nI n < v))) : (r = 0 ∧ ¬ ∃ j : Nat, j ≤ n ∧ v = nI j) ∨ (r = 1 ∧ ∃ j : Nat, j ≤ n ∧ v = nI j) := by
  rcases h with ⟨h1, h2⟩ | ⟨h1, h2⟩
  · refine Or.inl ⟨h1, ?_⟩
    rintro ⟨j, hj, rfl⟩
    rcases h2 with h2 | h2
    · exact absurd ((nI_ltI (by omega) (by omega)).mp h2) (by omega)
    · exact absurd ((nI_ltI (by omega) (by omega)).mp h2) (by omega)
  · exact Or.inr ⟨h1, rg_0 (by omega) h2⟩
theorem bz {r : Int32} {F G : Prop} (h : (r = 0 ∧ F) ∨ (r = 1 ∧ G)) : narrow .boolean (.int r) = .int r := by
  rcases h with h | h <;> rw [h.1] <;> decide
theorem rg_1b {x : Int32} {n : Nat} (hn : n < 2 ^ 31) (h : ¬ x < nI 1 ∧ ¬ nI n < x) : ∃ j : Nat, 1 ≤ j ∧ j ≤ n ∧ x = nI j := by
  obtain ⟨j, hj, rfl⟩ := rg_1 hn h
  exact ⟨j, by have := (not_congr (nI_ltI (a := j) (b := 1) (by omega) (by omega))).mp h.1; omega, hj, rfl⟩
theorem in_dn {v : Int32} {c : Nat} (hc : c < 2 ^ 31) (h : ¬ v < nI 0 ∧ ¬ dn c < v) : ∃ j : Nat, j < c ∧ v = nI j := by
  cases c with
  | zero =>
    exfalso
    apply h.2
    rw [dn_0]
    have h1 := h.1
    rw [Int32.lt_iff_toInt_lt] at h1 ⊢
    rw [show (nI 0).toInt = 0 from by decide] at h1
    rw [show (-1 : Int32).toInt = -1 from by decide]
    omega
  | succ k =>
    rw [dn_s] at h
    obtain ⟨j, hj, e⟩ := rg_0 (by omega) h
    exact ⟨j, by omega, e⟩
/-! prices -/
abbrev mp_is (n : Nat → Int32) (k : Nat) (h : Int32) : Prop := ¬ h < n (8 + 5 * k) ∧ ¬ n (8 + 5 * k + 1) < h
def mp_aw (v : Int32) : Int32 := if 0 ≤ v then v else -v
def mp_law (n : Nat → Int32) (k : Nat) (h bf : Int32) : Int32 :=
  if n (8 + 5 * k + 2) = nI 0 then n (8 + 5 * k + 3)
  else if n (8 + 5 * k + 2) = nI 1 then n (8 + 5 * k + 3) + n (8 + 5 * k + 4) * (h - n (8 + 5 * k))
  else if n (8 + 5 * k + 2) = nI 2 then (if (h - n (8 + 5 * k)) - (h - n (8 + 5 * k)) / nI 2 * nI 2 = 0 then n (8 + 5 * k + 3) else n (8 + 5 * k + 4))
  else if n (8 + 5 * k + 2) = nI 3 then n (8 + 5 * k + 3) + n (8 + 5 * k + 4) * mp_aw (nI 2 * h - n (8 + 5 * k) - n (8 + 5 * k + 1))
  else if n (8 + 5 * k + 3) < bf then n (8 + 5 * k + 3) else bf + n (8 + 5 * k + 4)
def mp_told (n : Nat → Int32) (h : Int32) : Nat → Int32
  | 0 => nI 0
  | i + 1 => if mp_is n i h then mp_law n i h (mp_told n h i) else mp_told n h i
def mp_price (n : Nat → Int32) (h : Int32) : Int32 := mp_told n h (n 7).toNatClampNeg
def mp_po (n : Nat → Int32) (pc op h : Int32) : Int32 := if h = pc then op else mp_price n h
def mp_br (n : Nat → Int32) (p f t : Int32) : Int32 := (if f < t then -p * (t - f) else (p - n 6) * (f - t)) - n 4 * t
def mp_dn (n : Nat → Int32) (cl : Int32) (h : Nat) : Nat := if nI h = cl then 0 else (n 3).toNatClampNeg
/-- the worth of a level at an hour, as it was laid: never, or by a level of the next hour -/
def layOK (n : Nat → Int32) (cl pc op : Int32) (v : Nat → Int32) (h l : Nat) : Prop :=
  v (61 * h + l) = -500000000 ∨ ∃ m : Nat, m ≤ 60 ∧ l ≤ m + mp_dn n cl h ∧ ¬ v (61 * (h + 1) + m) = -500000000 ∧ v (61 * (h + 1) + m) + mp_br n (mp_po n pc op (nI h)) (nI l) (nI m) = v (61 * h + l)
def layAll (n : Nat → Int32) (cl pc op : Int32) (v : Nat → Int32) (t : Nat) : Prop := ∀ h : Nat, t ≤ h → h < 24 → ∀ l : Nat, l ≤ 60 → layOK n cl pc op v h l
/-- the best so far -/
def beOK (n : Nat → Int32) (pr : Int32) (v : Nat → Int32) (h l d : Nat) (be : Int32) : Prop :=
  (be = -500000000 ∨ ∃ m : Nat, m ≤ 60 ∧ l ≤ m + d ∧ ¬ v (61 * (h + 1) + m) = -500000000 ∧ v (61 * (h + 1) + m) + mp_br n pr (nI l) (nI m) = be) ∧ ¬ be < -500000000
def byOK (n : Nat → Int32) (pr : Int32) (v : Nat → Int32) (h l m : Nat) (b : Int32) : Prop :=
  b = -500000000 ∨ (¬ v (61 * (h + 1) + m) = -500000000 ∧ v (61 * (h + 1) + m) + mp_br n pr (nI l) (nI m) = b)
theorem be_0 {n : Nat → Int32} {pr : Int32} {v : Nat → Int32} {h l d : Nat} : beOK n pr v h l d (-500000000) := ⟨Or.inl rfl, by decide⟩
theorem be_step {n : Nat → Int32} {pr : Int32} {v : Nat → Int32} {h l d m : Nat} {be b : Int32} (hb : beOK n pr v h l d be) (hy : byOK n pr v h l m b) (hm : m ≤ 60) (hl : l ≤ m + d) (c : ¬ b ≤ be) : beOK n pr v h l d b := by
  have h1 : ¬ b < -500000000 := by
    intro q
    have h2 := hb.2
    rw [Int32.lt_iff_toInt_lt] at q h2
    rw [Int32.le_iff_toInt_le] at c
    omega
  refine ⟨?_, h1⟩
  rcases hy with hy | hy
  · exfalso
    have h2 := hb.2
    rw [hy, Int32.le_iff_toInt_le] at c
    rw [Int32.lt_iff_toInt_lt] at h2
    omega
  · exact Or.inr ⟨m, hm, hl, hy.1, hy.2⟩
theorem lay_keep {n : Nat → Int32} {cl pc op : Int32} {v w : Nat → Int32} {h l : Nat} (hk : layOK n cl pc op v h l) (e1 : w (61 * h + l) = v (61 * h + l)) (e2 : ∀ m, m ≤ 60 → w (61 * (h + 1) + m) = v (61 * (h + 1) + m)) : layOK n cl pc op w h l := by
  rcases hk with hk | ⟨m, h1, h2, h3, h4⟩
  · exact Or.inl (by rw [e1]; exact hk)
  · exact Or.inr ⟨m, h1, h2, by rw [e2 m h1]; exact h3, by rw [e2 m h1, e1]; exact h4⟩
theorem lay_row {n : Nat → Int32} {cl pc op : Int32} {v w : Nat → Int32} {h l : Nat} {be : Int32} (hp : ∀ k : Nat, k < l → layOK n cl pc op v h k) (hb : beOK n (mp_po n pc op (nI h)) v h l (mp_dn n cl h) be) (e : upd v (nI (61 * h + l)).toNatClampNeg be = w) (hh : h < 24) (hl : l ≤ 60) : ∀ k : Nat, k < l + 1 → layOK n cl pc op w h k := by
  intro k hk
  have e2 : ∀ m, m ≤ 60 → w (61 * (h + 1) + m) = v (61 * (h + 1) + m) := fun m hm => upd_at e (by omega) (by omega)
  by_cases q : k = l
  · subst q
    rcases hb.1 with hb | ⟨m, h1, h2, h3, h4⟩
    · exact Or.inl (by rw [upd_self e (by omega)]; exact hb)
    · exact Or.inr ⟨m, h1, h2, by rw [e2 m h1]; exact h3, by rw [e2 m h1, upd_self e (by omega)]; exact h4⟩
  · exact lay_keep (hp k (by omega)) (upd_at e (by omega) (by omega)) e2
theorem lay_out {v vl w : Nat → Int32} {h l : Nat} {be : Int32} (hp : ∀ q : Nat, q < 61 * h ∨ 61 * h + 61 ≤ q → v q = vl q) (e : upd v (nI (61 * h + l)).toNatClampNeg be = w) (hh : h < 24) (hl : l ≤ 60) : ∀ q : Nat, q < 61 * h ∨ 61 * h + 61 ≤ q → w q = vl q := by
  intro q hq
  rw [upd_at e (by omega) (by omega)]
  exact hp q hq
theorem lay_down {n : Nat → Int32} {cl pc op : Int32} {v w : Nat → Int32} {t : Nat} (ha : layAll n cl pc op v (t + 1)) (ht : t < 24) (e1 : ∀ q : Nat, q < 61 * t ∨ 61 * t + 61 ≤ q → w q = v q) (e2 : ∀ l : Nat, l < 61 → layOK n cl pc op w t l) : layAll n cl pc op w t := by
  intro h h1 h2 l hl
  by_cases q : h = t
  · subst q; exact e2 l (by omega)
  · exact lay_keep (ha h (by omega) h2 l hl) (e1 _ (by omega)) (fun m hm => e1 _ (by omega))
/-- a level of the next hour that the plan finds, from m on -/
def fiOK (n : Nat → Int32) (pr : Int32) (v : Nat → Int32) (h l m : Nat) : Prop :=
  ∃ k : Nat, m ≤ k ∧ k ≤ 60 ∧ ¬ v (61 * (h + 1) + k) = -500000000 ∧ v (61 * (h + 1) + k) + mp_br n pr (nI l) (nI k) = v (61 * h + l)
theorem fi_0 {n : Nat → Int32} {cl pc op : Int32} {v : Nat → Int32} {h l m : Nat} (ha : layAll n cl pc op v 0) (hh : h < 24) (hl : l ≤ 60) (hne : ¬ v (61 * h + l) = -500000000) (hm : m = l - mp_dn n cl h) : fiOK n (mp_po n pc op (nI h)) v h l m := by
  rcases ha h (Nat.zero_le _) hh l hl with q | ⟨k, h1, h2, h3, h4⟩
  · exact absurd q hne
  · exact ⟨k, by omega, h1, h3, h4⟩
theorem fi_no {n : Nat → Int32} {pr : Int32} {v : Nat → Int32} {h l m : Nat} (hf : fiOK n pr v h l m) (c : v (61 * (h + 1) + m) = -500000000 ∨ ¬ v (61 * (h + 1) + m) + mp_br n pr (nI l) (nI m) = v (61 * h + l)) : fiOK n pr v h l (m + 1) := by
  obtain ⟨k, h1, h2, h3, h4⟩ := hf
  by_cases q : k = m
  · subst q
    rcases c with c | c
    · exact absurd c h3
    · exact absurd h4 c
  · exact ⟨k, by omega, h2, h3, h4⟩
theorem fi_le {n : Nat → Int32} {pr : Int32} {v : Nat → Int32} {h l m : Nat} (hf : fiOK n pr v h l m) : m ≤ 60 := by
  obtain ⟨k, h1, h2, -⟩ := hf
  omega
theorem dn_1 {n : Nat → Int32} {cl : Int32} {h : Nat} (c : nI h = cl) : mp_dn n cl h = 0 := if_pos c
theorem dn_2 {n : Nat → Int32} {cl : Int32} {h g : Nat} (c : ¬ nI h = cl) (e : n 3 = nI g) (hg : g < 2 ^ 31) : mp_dn n cl h = g := by rw [mp_dn, if_neg c, e, nI_clamp hg]
theorem fa_cpy {f g : Nat → Int32} {sp dp n : Nat} (e : g = va_cpy f f sp dp n) (h1 : 8 ≤ dp) (h2 : dp + n ≤ 68) : ∀ q, q < 8 ∨ 68 ≤ q → g q = f q := fun q hq => by rw [e, pk_cpy_out (by omega)]
theorem cp_end {f d g : Nat → Int32} {sp dp i k : Nat} (h : g = va_cpy f d sp dp i) (e : i = k) : g = va_cpy f d sp dp k := e ▸ h
theorem is_of {r h : Int32} {n : Nat → Int32} {k : Nat} (w : (r = 0 ∧ (h < n (8 + 5 * k) ∨ n (8 + 5 * k + 1) < h)) ∨ (r = 1 ∧ (¬ h < n (8 + 5 * k) ∧ ¬ n (8 + 5 * k + 1) < h))) : (r = 0 ∧ ¬ mp_is n k h) ∨ (r = 1 ∧ mp_is n k h) := by
  rcases w with q | q
  · exact Or.inl ⟨q.1, fun z => q.2.elim z.1 z.2⟩
  · exact Or.inr q
theorem is_law {r v : Int32} {n : Nat → Int32} {lc : Nat} (hlc : lc ≤ 12) (elc : n 7 = nI lc) (w : (r = 0 ∧ (v < nI 0 ∨ dn lc < v)) ∨ (r = 1 ∧ (¬ v < nI 0 ∧ ¬ dn lc < v))) : (r = 0 ∧ True) ∨ (r = 1 ∧ ∃ j c : Nat, j < c ∧ c ≤ 12 ∧ n 7 = nI c ∧ v = nI j) := by
  rcases w with q | q
  · exact Or.inl ⟨q.1, trivial⟩
  · obtain ⟨j, h1, h2⟩ := in_dn (by omega) q.2
    exact Or.inr ⟨q.1, j, lc, h1, hlc, elc, h2⟩
theorem dn_z {t : Nat} (c : dn t < 0) (h : t < 2 ^ 31) : t = 0 := by
  cases t with
  | zero => rfl
  | succ k => rw [dn_s] at c; exact absurd c (nI_pos (by omega))
