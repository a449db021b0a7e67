set_option maxHeartbeats 4000000 in
set_option maxRecDepth 100000 in
theorem c_X1_load (l : Launch) (dC : Nat → ClassId) (dI : Nat → Nat → Nat) (b0 b1 b2 b3 b4 b5 b6 s0 s1 s2 : Nat) (kb1 kb2 kb3 kb4 kb5 kb6 ks1 ks2 : ClassId) (sz : Nat) (ltk : Nat) (lgv : Nat) (lhc : Int32) (lew : Int32) (lsl : Int32) (lsh : Int32) (pr : Nat → Int32) (lr : Nat → Int32) (tb : Nat → Int32) (hi : Nat → Int32) (by_ : Nat → Int32) (se : Nat → Int32) (ov : Nat) (st : Nat) (tk : Nat) (gv : Nat) (hc : Int32) (ew : Int32) (sl : Int32) (ca : Int32) (lc : Nat) (rm : Nat → Int32) (lw : Nat → Int32) (i0 : ltk ≤ 9) (i1 : lgv ≤ 9) (i2 : bdA 60 24 lr) (i3 : bdA 60 25 hi) (i4 : bdA 60 24 by_) (i5 : bdA 60 24 se) (i6 : ov ≤ 24) (i7 : st ≤ 60) (i8 : tk ≤ 9) (i9 : gv ≤ 9) (i10 : lc ≤ 12) (i11 : bdA 60 24 rm) : Met l yX1_load wsX1_load ({ frames := 3, cells := 0, slots := 0, locals := 71 }) (va_Pc [.ref b0, .ref s0] (fun U => U.heap.size = sz ∧ va_P (dC, dI) vwCl [(b0, .inr (1, [.ref b1, .ref b2, .int (nI ltk), .int (nI lgv), .int lhc, .int lew, .int lsl, .int lsh, .ref b3, .ref b4, .ref b5, .ref b6])), (b1, .inl (kb1, 24, .inl pr)), (b2, .inl (kb2, 24, .inl lr)), (b3, .inl (kb3, 1525, .inl tb)), (b4, .inl (kb4, 25, .inl hi)), (b5, .inl (kb5, 24, .inl by_)), (b6, .inl (kb6, 24, .inl se)), (s0, .inr (2, [.int (nI ov), .int (nI st), .int (nI tk), .int (nI gv), .int hc, .int ew, .int sl, .int ca, .int (nI lc), .ref s1, .ref s2])), (s1, .inl (ks1, 24, .inl rm)), (s2, .inl (ks2, 60, .inl lw))] U.heap ∧ va_K (dC, dI) vwCl [(kb1, .int), (kb2, .int), (kb3, .int), (kb4, .int), (kb5, .int), (kb6, .int), (ks1, .int), (ks2, .int)] U ∧ va_D (fun _ => True) [(b0, .inr (1, [.ref b1, .ref b2, .int (nI ltk), .int (nI lgv), .int lhc, .int lew, .int lsl, .int lsh, .ref b3, .ref b4, .ref b5, .ref b6])), (b1, .inl (kb1, 24, .inl pr)), (b2, .inl (kb2, 24, .inl lr)), (b3, .inl (kb3, 1525, .inl tb)), (b4, .inl (kb4, 25, .inl hi)), (b5, .inl (kb5, 24, .inl by_)), (b6, .inl (kb6, 24, .inl se)), (s0, .inr (2, [.int (nI ov), .int (nI st), .int (nI tk), .int (nI gv), .int hc, .int ew, .int sl, .int ca, .int (nI lc), .ref s1, .ref s2])), (s1, .inl (ks1, 24, .inl rm)), (s2, .inl (ks2, 60, .inl lw))])) (va_Qv (fun _ : Unit => True) (fun _ t => ∃ (ltk' : Nat) (lgv' : Nat) (lhc' : Int32) (lew' : Int32) (lsl' : Int32) (lsh' : Int32) (pr' : Nat → Int32) (lr' : Nat → Int32), ltk' ≤ 9 ∧ lgv' ≤ 9 ∧ bdA 60 24 lr' ∧ va_P (dC, dI) vwCl [(b0, .inr (1, [.ref b1, .ref b2, .int (nI ltk'), .int (nI lgv'), .int lhc', .int lew', .int lsl', .int lsh', .ref b3, .ref b4, .ref b5, .ref b6])), (b1, .inl (kb1, 24, .inl pr')), (b2, .inl (kb2, 24, .inl lr')), (b3, .inl (kb3, 1525, .inl tb)), (b4, .inl (kb4, 25, .inl hi)), (b5, .inl (kb5, 24, .inl by_)), (b6, .inl (kb6, 24, .inl se)), (s0, .inr (2, [.int (nI ov), .int (nI st), .int (nI tk), .int (nI gv), .int hc, .int ew, .int sl, .int ca, .int (nI lc), .ref s1, .ref s2])), (s1, .inl (ks1, 24, .inl rm)), (s2, .inl (ks2, 60, .inl lw))] t.heap ∧ va_K (dC, dI) vwCl [(kb1, .int), (kb2, .int), (kb3, .int), (kb4, .int), (kb5, .int), (kb6, .int), (ks1, .int), (ks2, .int)] t ∧ va_D (va_A [(b0, .inr (1, [.ref b1, .ref b2, .int (nI ltk), .int (nI lgv), .int lhc, .int lew, .int lsl, .int lsh, .ref b3, .ref b4, .ref b5, .ref b6])), (b1, .inl (kb1, 24, .inl pr)), (b2, .inl (kb2, 24, .inl lr)), (b3, .inl (kb3, 1525, .inl tb)), (b4, .inl (kb4, 25, .inl hi)), (b5, .inl (kb5, 24, .inl by_)), (b6, .inl (kb6, 24, .inl se)), (s0, .inr (2, [.int (nI ov), .int (nI st), .int (nI tk), .int (nI gv), .int hc, .int ew, .int sl, .int ca, .int (nI lc), .ref s1, .ref s2])), (s1, .inl (ks1, 24, .inl rm)), (s2, .inl (ks2, 60, .inl lw))] sz) [(b0, .inr (1, [.ref b1, .ref b2, .int (nI ltk'), .int (nI lgv'), .int lhc', .int lew', .int lsl', .int lsh', .ref b3, .ref b4, .ref b5, .ref b6])), (b1, .inl (kb1, 24, .inl pr')), (b2, .inl (kb2, 24, .inl lr')), (b3, .inl (kb3, 1525, .inl tb)), (b4, .inl (kb4, 25, .inl hi)), (b5, .inl (kb5, 24, .inl by_)), (b6, .inl (kb6, 24, .inl se)), (s0, .inr (2, [.int (nI ov), .int (nI st), .int (nI tk), .int (nI gv), .int hc, .int ew, .int sl, .int ca, .int (nI lc), .ref s1, .ref s2])), (s1, .inl (ks1, 24, .inl rm)), (s2, .inl (ks2, 60, .inl lw))]) (va_A [(b0, .inr (1, [.ref b1, .ref b2, .int (nI ltk), .int (nI lgv), .int lhc, .int lew, .int lsl, .int lsh, .ref b3, .ref b4, .ref b5, .ref b6])), (b1, .inl (kb1, 24, .inl pr)), (b2, .inl (kb2, 24, .inl lr)), (b3, .inl (kb3, 1525, .inl tb)), (b4, .inl (kb4, 25, .inl hi)), (b5, .inl (kb5, 24, .inl by_)), (b6, .inl (kb6, 24, .inl se)), (s0, .inr (2, [.int (nI ov), .int (nI st), .int (nI tk), .int (nI gv), .int hc, .int ew, .int sl, .int ca, .int (nI lc), .ref s1, .ref s2])), (s1, .inl (ks1, 24, .inl rm)), (s2, .inl (ks2, 60, .inl lw))] sz)) 0 0 (va_A [(b0, .inr (1, [.ref b1, .ref b2, .int (nI ltk), .int (nI lgv), .int lhc, .int lew, .int lsl, .int lsh, .ref b3, .ref b4, .ref b5, .ref b6])), (b1, .inl (kb1, 24, .inl pr)), (b2, .inl (kb2, 24, .inl lr)), (b3, .inl (kb3, 1525, .inl tb)), (b4, .inl (kb4, 25, .inl hi)), (b5, .inl (kb5, 24, .inl by_)), (b6, .inl (kb6, 24, .inl se)), (s0, .inr (2, [.int (nI ov), .int (nI st), .int (nI tk), .int (nI gv), .int hc, .int ew, .int sl, .int ca, .int (nI lc), .ref s1, .ref s2])), (s1, .inl (ks1, 24, .inl rm)), (s2, .inl (ks2, 60, .inl lw))] sz) := by
  refine Met.ofW (cc := cX1_load) (maxL := 3) (ret := none) (by decide) rfl ?_
  intro p e s m args below meth c s₁ B hml hv
  obtain ⟨rfl, hsz, hP, hK, hD0⟩ := hv
  have hx := B.exec
  have hb := B.bytes
  have hr := B.returns
  have hts := atoms_spec (ws := wsX1_load) B.pre
  have hown : s.vm.findClass RX1 = some m.cls := findClass_of_methodNamed B.named
  have hlocks := B.notSynchronized
  have inX2 : ∀ w ∈ wsX20, w ∈ wsX1_load := fun _ h => List.mem_cons_of_mem _ (List.mem_append_left _ (List.mem_append_right _ h))
  have inX1 : ∀ w ∈ wsX10, w ∈ wsX1_load := fun _ h => List.mem_cons_of_mem _ (List.mem_append_right _ h)
  subst hsz
  have hD := hD0.self (sz := s.heap.size)
  generalize hAe : va_A [(b0, .inr (1, [.ref b1, .ref b2, .int (nI ltk), .int (nI lgv), .int lhc, .int lew, .int lsl, .int lsh, .ref b3, .ref b4, .ref b5, .ref b6])), (b1, .inl (kb1, 24, .inl pr)), (b2, .inl (kb2, 24, .inl lr)), (b3, .inl (kb3, 1525, .inl tb)), (b4, .inl (kb4, 25, .inl hi)), (b5, .inl (kb5, 24, .inl by_)), (b6, .inl (kb6, 24, .inl se)), (s0, .inr (2, [.int (nI ov), .int (nI st), .int (nI tk), .int (nI gv), .int hc, .int ew, .int sl, .int ca, .int (nI lc), .ref s1, .ref s2])), (s1, .inl (ks1, 24, .inl rm)), (s2, .inl (ks2, 60, .inl lw))] s.heap.size = A at hD ⊢
  have hA : ∀ q : Nat, s.heap.size ≤ q → A q := fun q h => by rw [← hAe]; exact Or.inr h
  have hS : va_S A s.heap s.heap [] := va_S.rf
  have hl := lv_entry ([.ref b0, .ref s0]) (n := 3) (Nat.le_of_ble_eq_true rfl)
  rw [lg_entry_eq]
  generalize (lg_sl ([.ref b0, .ref s0]) ++ List.replicate (3 - (lg_sl ([.ref b0, .ref s0])).length) Slot.unset).toArray = ls at hl ⊢
  generalize hQe : MQ below _ _ s 0 0 _ = Q
  generalize ([.ref b0, .ref s0] : List Value).toArray = args at hts hQe ⊢
  have hl : lv_has ls 3 [(0, .ref b0), (1, .ref s0)] := hl
  refine lv_aload_n hx hb dX1_load_0 rfl (lv_at hl 0 rfl) ?_
  refine lv_aload_n hx hb dX1_load_1 rfl (lv_at hl 1 rfl) ?_
  refine va_get (D := (dC, dI)) (ci := 2) (v := .int (nI tk)) (C := RX2) (T := TX2) (N := 11) hx hb hts inX2 hown hK hP 7 rfl rfl 2 (by decide) (hts (.fieldLink RX1 30 "StoreSlopes$State" "takes" "I") (List.mem_of_getElem? (i := 1) rfl)) (fun _ h9 => h9) rfl dX1_load_2 ?_
  refine va_put (D := (dC, dI)) (ci := 1) (v := .int (nI tk)) (ty := .int) (C := RX1) (T := TX1) (N := 12) hx hb hts inX1 tyX1 tyX1_ok nmX1 hown hK hP hD hS 0 rfl rfl 2 (by decide) (hts (.fieldLink RX1 36 "StoreSlopes$Slopes" "takes" "I") (List.mem_of_getElem? (i := 2) rfl)) (fun _ h9 => h9) rfl (by decide +kernel) rfl rfl (Nat.le_of_ble_eq_true rfl) dX1_load_5 (fun H locs hP hD hS => ?_)
  have hP : va_P (dC, dI) vwCl [(b0, .inr (1, [.ref b1, .ref b2, .int (nI tk), .int (nI lgv), .int lhc, .int lew, .int lsl, .int lsh, .ref b3, .ref b4, .ref b5, .ref b6])), (b1, .inl (kb1, 24, .inl pr)), (b2, .inl (kb2, 24, .inl lr)), (b3, .inl (kb3, 1525, .inl tb)), (b4, .inl (kb4, 25, .inl hi)), (b5, .inl (kb5, 24, .inl by_)), (b6, .inl (kb6, 24, .inl se)), (s0, .inr (2, [.int (nI ov), .int (nI st), .int (nI tk), .int (nI gv), .int hc, .int ew, .int sl, .int ca, .int (nI lc), .ref s1, .ref s2])), (s1, .inl (ks1, 24, .inl rm)), (s2, .inl (ks2, 60, .inl lw))] H := hP
  have hD : va_D A [(b0, .inr (1, [.ref b1, .ref b2, .int (nI tk), .int (nI lgv), .int lhc, .int lew, .int lsl, .int lsh, .ref b3, .ref b4, .ref b5, .ref b6])), (b1, .inl (kb1, 24, .inl pr)), (b2, .inl (kb2, 24, .inl lr)), (b3, .inl (kb3, 1525, .inl tb)), (b4, .inl (kb4, 25, .inl hi)), (b5, .inl (kb5, 24, .inl by_)), (b6, .inl (kb6, 24, .inl se)), (s0, .inr (2, [.int (nI ov), .int (nI st), .int (nI tk), .int (nI gv), .int hc, .int ew, .int sl, .int ca, .int (nI lc), .ref s1, .ref s2])), (s1, .inl (ks1, 24, .inl rm)), (s2, .inl (ks2, 60, .inl lw))] := hD
  refine lv_aload_n hx hb dX1_load_8 rfl (lv_at hl 0 rfl) ?_
  refine lv_aload_n hx hb dX1_load_9 rfl (lv_at hl 1 rfl) ?_
  refine va_get (D := (dC, dI)) (ci := 2) (v := .int (nI gv)) (C := RX2) (T := TX2) (N := 11) hx hb hts inX2 hown hK hP 7 rfl rfl 3 (by decide) (hts (.fieldLink RX1 37 "StoreSlopes$State" "gives" "I") (List.mem_of_getElem? (i := 3) rfl)) (fun _ h9 => h9) rfl dX1_load_10 ?_
  refine va_put (D := (dC, dI)) (ci := 1) (v := .int (nI gv)) (ty := .int) (C := RX1) (T := TX1) (N := 12) hx hb hts inX1 tyX1 tyX1_ok nmX1 hown hK hP hD hS 0 rfl rfl 3 (by decide) (hts (.fieldLink RX1 40 "StoreSlopes$Slopes" "gives" "I") (List.mem_of_getElem? (i := 4) rfl)) (fun _ h9 => h9) rfl (by decide +kernel) rfl rfl (Nat.le_of_ble_eq_true rfl) dX1_load_13 (fun H locs hP hD hS => ?_)
  have hP : va_P (dC, dI) vwCl [(b0, .inr (1, [.ref b1, .ref b2, .int (nI tk), .int (nI gv), .int lhc, .int lew, .int lsl, .int lsh, .ref b3, .ref b4, .ref b5, .ref b6])), (b1, .inl (kb1, 24, .inl pr)), (b2, .inl (kb2, 24, .inl lr)), (b3, .inl (kb3, 1525, .inl tb)), (b4, .inl (kb4, 25, .inl hi)), (b5, .inl (kb5, 24, .inl by_)), (b6, .inl (kb6, 24, .inl se)), (s0, .inr (2, [.int (nI ov), .int (nI st), .int (nI tk), .int (nI gv), .int hc, .int ew, .int sl, .int ca, .int (nI lc), .ref s1, .ref s2])), (s1, .inl (ks1, 24, .inl rm)), (s2, .inl (ks2, 60, .inl lw))] H := hP
  have hD : va_D A [(b0, .inr (1, [.ref b1, .ref b2, .int (nI tk), .int (nI gv), .int lhc, .int lew, .int lsl, .int lsh, .ref b3, .ref b4, .ref b5, .ref b6])), (b1, .inl (kb1, 24, .inl pr)), (b2, .inl (kb2, 24, .inl lr)), (b3, .inl (kb3, 1525, .inl tb)), (b4, .inl (kb4, 25, .inl hi)), (b5, .inl (kb5, 24, .inl by_)), (b6, .inl (kb6, 24, .inl se)), (s0, .inr (2, [.int (nI ov), .int (nI st), .int (nI tk), .int (nI gv), .int hc, .int ew, .int sl, .int ca, .int (nI lc), .ref s1, .ref s2])), (s1, .inl (ks1, 24, .inl rm)), (s2, .inl (ks2, 60, .inl lw))] := hD
  refine lv_aload_n hx hb dX1_load_16 rfl (lv_at hl 0 rfl) ?_
  refine lv_aload_n hx hb dX1_load_17 rfl (lv_at hl 1 rfl) ?_
  refine va_get (D := (dC, dI)) (ci := 2) (v := .int hc) (C := RX2) (T := TX2) (N := 11) hx hb hts inX2 hown hK hP 7 rfl rfl 4 (by decide) (hts (.fieldLink RX1 41 "StoreSlopes$State" "holdCost" "I") (List.mem_of_getElem? (i := 5) rfl)) (fun _ h9 => h9) rfl dX1_load_18 ?_
  refine va_put (D := (dC, dI)) (ci := 1) (v := .int hc) (ty := .int) (C := RX1) (T := TX1) (N := 12) hx hb hts inX1 tyX1 tyX1_ok nmX1 hown hK hP hD hS 0 rfl rfl 4 (by decide) (hts (.fieldLink RX1 44 "StoreSlopes$Slopes" "holdCost" "I") (List.mem_of_getElem? (i := 6) rfl)) (fun _ h9 => h9) rfl (by decide +kernel) rfl rfl (Nat.le_of_ble_eq_true rfl) dX1_load_21 (fun H locs hP hD hS => ?_)
  have hP : va_P (dC, dI) vwCl [(b0, .inr (1, [.ref b1, .ref b2, .int (nI tk), .int (nI gv), .int hc, .int lew, .int lsl, .int lsh, .ref b3, .ref b4, .ref b5, .ref b6])), (b1, .inl (kb1, 24, .inl pr)), (b2, .inl (kb2, 24, .inl lr)), (b3, .inl (kb3, 1525, .inl tb)), (b4, .inl (kb4, 25, .inl hi)), (b5, .inl (kb5, 24, .inl by_)), (b6, .inl (kb6, 24, .inl se)), (s0, .inr (2, [.int (nI ov), .int (nI st), .int (nI tk), .int (nI gv), .int hc, .int ew, .int sl, .int ca, .int (nI lc), .ref s1, .ref s2])), (s1, .inl (ks1, 24, .inl rm)), (s2, .inl (ks2, 60, .inl lw))] H := hP
  have hD : va_D A [(b0, .inr (1, [.ref b1, .ref b2, .int (nI tk), .int (nI gv), .int hc, .int lew, .int lsl, .int lsh, .ref b3, .ref b4, .ref b5, .ref b6])), (b1, .inl (kb1, 24, .inl pr)), (b2, .inl (kb2, 24, .inl lr)), (b3, .inl (kb3, 1525, .inl tb)), (b4, .inl (kb4, 25, .inl hi)), (b5, .inl (kb5, 24, .inl by_)), (b6, .inl (kb6, 24, .inl se)), (s0, .inr (2, [.int (nI ov), .int (nI st), .int (nI tk), .int (nI gv), .int hc, .int ew, .int sl, .int ca, .int (nI lc), .ref s1, .ref s2])), (s1, .inl (ks1, 24, .inl rm)), (s2, .inl (ks2, 60, .inl lw))] := hD
  refine lv_aload_n hx hb dX1_load_24 rfl (lv_at hl 0 rfl) ?_
  refine lv_aload_n hx hb dX1_load_25 rfl (lv_at hl 1 rfl) ?_
  refine va_get (D := (dC, dI)) (ci := 2) (v := .int ew) (C := RX2) (T := TX2) (N := 11) hx hb hts inX2 hown hK hP 7 rfl rfl 5 (by decide) (hts (.fieldLink RX1 45 "StoreSlopes$State" "endWorth" "I") (List.mem_of_getElem? (i := 7) rfl)) (fun _ h9 => h9) rfl dX1_load_26 ?_
  refine va_put (D := (dC, dI)) (ci := 1) (v := .int ew) (ty := .int) (C := RX1) (T := TX1) (N := 12) hx hb hts inX1 tyX1 tyX1_ok nmX1 hown hK hP hD hS 0 rfl rfl 5 (by decide) (hts (.fieldLink RX1 48 "StoreSlopes$Slopes" "endWorth" "I") (List.mem_of_getElem? (i := 8) rfl)) (fun _ h9 => h9) rfl (by decide +kernel) rfl rfl (Nat.le_of_ble_eq_true rfl) dX1_load_29 (fun H locs hP hD hS => ?_)
  have hP : va_P (dC, dI) vwCl [(b0, .inr (1, [.ref b1, .ref b2, .int (nI tk), .int (nI gv), .int hc, .int ew, .int lsl, .int lsh, .ref b3, .ref b4, .ref b5, .ref b6])), (b1, .inl (kb1, 24, .inl pr)), (b2, .inl (kb2, 24, .inl lr)), (b3, .inl (kb3, 1525, .inl tb)), (b4, .inl (kb4, 25, .inl hi)), (b5, .inl (kb5, 24, .inl by_)), (b6, .inl (kb6, 24, .inl se)), (s0, .inr (2, [.int (nI ov), .int (nI st), .int (nI tk), .int (nI gv), .int hc, .int ew, .int sl, .int ca, .int (nI lc), .ref s1, .ref s2])), (s1, .inl (ks1, 24, .inl rm)), (s2, .inl (ks2, 60, .inl lw))] H := hP
  have hD : va_D A [(b0, .inr (1, [.ref b1, .ref b2, .int (nI tk), .int (nI gv), .int hc, .int ew, .int lsl, .int lsh, .ref b3, .ref b4, .ref b5, .ref b6])), (b1, .inl (kb1, 24, .inl pr)), (b2, .inl (kb2, 24, .inl lr)), (b3, .inl (kb3, 1525, .inl tb)), (b4, .inl (kb4, 25, .inl hi)), (b5, .inl (kb5, 24, .inl by_)), (b6, .inl (kb6, 24, .inl se)), (s0, .inr (2, [.int (nI ov), .int (nI st), .int (nI tk), .int (nI gv), .int hc, .int ew, .int sl, .int ca, .int (nI lc), .ref s1, .ref s2])), (s1, .inl (ks1, 24, .inl rm)), (s2, .inl (ks2, 60, .inl lw))] := hD
  refine lv_aload_n hx hb dX1_load_32 rfl (lv_at hl 0 rfl) ?_
  refine lv_aload_n hx hb dX1_load_33 rfl (lv_at hl 1 rfl) ?_
  refine va_get (D := (dC, dI)) (ci := 2) (v := .int sl) (C := RX2) (T := TX2) (N := 11) hx hb hts inX2 hown hK hP 7 rfl rfl 6 (by decide) (hts (.fieldLink RX1 49 "StoreSlopes$State" "sellLoss" "I") (List.mem_of_getElem? (i := 9) rfl)) (fun _ h9 => h9) rfl dX1_load_34 ?_
  refine va_put (D := (dC, dI)) (ci := 1) (v := .int sl) (ty := .int) (C := RX1) (T := TX1) (N := 12) hx hb hts inX1 tyX1 tyX1_ok nmX1 hown hK hP hD hS 0 rfl rfl 6 (by decide) (hts (.fieldLink RX1 52 "StoreSlopes$Slopes" "sellLoss" "I") (List.mem_of_getElem? (i := 10) rfl)) (fun _ h9 => h9) rfl (by decide +kernel) rfl rfl (Nat.le_of_ble_eq_true rfl) dX1_load_37 (fun H locs hP hD hS => ?_)
  have hP : va_P (dC, dI) vwCl [(b0, .inr (1, [.ref b1, .ref b2, .int (nI tk), .int (nI gv), .int hc, .int ew, .int sl, .int lsh, .ref b3, .ref b4, .ref b5, .ref b6])), (b1, .inl (kb1, 24, .inl pr)), (b2, .inl (kb2, 24, .inl lr)), (b3, .inl (kb3, 1525, .inl tb)), (b4, .inl (kb4, 25, .inl hi)), (b5, .inl (kb5, 24, .inl by_)), (b6, .inl (kb6, 24, .inl se)), (s0, .inr (2, [.int (nI ov), .int (nI st), .int (nI tk), .int (nI gv), .int hc, .int ew, .int sl, .int ca, .int (nI lc), .ref s1, .ref s2])), (s1, .inl (ks1, 24, .inl rm)), (s2, .inl (ks2, 60, .inl lw))] H := hP
  have hD : va_D A [(b0, .inr (1, [.ref b1, .ref b2, .int (nI tk), .int (nI gv), .int hc, .int ew, .int sl, .int lsh, .ref b3, .ref b4, .ref b5, .ref b6])), (b1, .inl (kb1, 24, .inl pr)), (b2, .inl (kb2, 24, .inl lr)), (b3, .inl (kb3, 1525, .inl tb)), (b4, .inl (kb4, 25, .inl hi)), (b5, .inl (kb5, 24, .inl by_)), (b6, .inl (kb6, 24, .inl se)), (s0, .inr (2, [.int (nI ov), .int (nI st), .int (nI tk), .int (nI gv), .int hc, .int ew, .int sl, .int ca, .int (nI lc), .ref s1, .ref s2])), (s1, .inl (ks1, 24, .inl rm)), (s2, .inl (ks2, 60, .inl lw))] := hD
  refine lv_aload_n hx hb dX1_load_40 rfl (lv_at hl 0 rfl) ?_
  refine lv_iconst (v := (-1)) hx hb dX1_load_41 (by decide) ?_
  refine va_put (D := (dC, dI)) (ci := 1) (v := .int ((-1))) (ty := .int) (C := RX1) (T := TX1) (N := 12) hx hb hts inX1 tyX1 tyX1_ok nmX1 hown hK hP hD hS 0 rfl rfl 7 (by decide) (hts (.fieldLink RX1 53 "StoreSlopes$Slopes" "shutHour" "I") (List.mem_of_getElem? (i := 11) rfl)) (fun _ h9 => h9) rfl (by decide +kernel) rfl rfl (Nat.le_of_ble_eq_true rfl) dX1_load_42 (fun H locs hP hD hS => ?_)
  have hP : va_P (dC, dI) vwCl [(b0, .inr (1, [.ref b1, .ref b2, .int (nI tk), .int (nI gv), .int hc, .int ew, .int sl, .int ((-1)), .ref b3, .ref b4, .ref b5, .ref b6])), (b1, .inl (kb1, 24, .inl pr)), (b2, .inl (kb2, 24, .inl lr)), (b3, .inl (kb3, 1525, .inl tb)), (b4, .inl (kb4, 25, .inl hi)), (b5, .inl (kb5, 24, .inl by_)), (b6, .inl (kb6, 24, .inl se)), (s0, .inr (2, [.int (nI ov), .int (nI st), .int (nI tk), .int (nI gv), .int hc, .int ew, .int sl, .int ca, .int (nI lc), .ref s1, .ref s2])), (s1, .inl (ks1, 24, .inl rm)), (s2, .inl (ks2, 60, .inl lw))] H := hP
  have hD : va_D A [(b0, .inr (1, [.ref b1, .ref b2, .int (nI tk), .int (nI gv), .int hc, .int ew, .int sl, .int ((-1)), .ref b3, .ref b4, .ref b5, .ref b6])), (b1, .inl (kb1, 24, .inl pr)), (b2, .inl (kb2, 24, .inl lr)), (b3, .inl (kb3, 1525, .inl tb)), (b4, .inl (kb4, 25, .inl hi)), (b5, .inl (kb5, 24, .inl by_)), (b6, .inl (kb6, 24, .inl se)), (s0, .inr (2, [.int (nI ov), .int (nI st), .int (nI tk), .int (nI gv), .int hc, .int ew, .int sl, .int ca, .int (nI lc), .ref s1, .ref s2])), (s1, .inl (ks1, 24, .inl rm)), (s2, .inl (ks2, 60, .inl lw))] := hD
  refine lv_iconst (v := nI 0) hx hb dX1_load_45 (by decide) ?_
  refine lv_istore_n (lv' := [(2, .int (nI 0)), (0, .ref b0), (1, .ref s0)]) hx hb dX1_load_46 rfl hl (by decide) rfl (fun ls hl => ?_)
  have L47 : ∀ (n : Nat) (i : Nat) (prv : Nat → Int32) (lrv : Nat → Int32) (H : Heap) (locs : List Loc) (ls : Array Slot), i ≤ 24 → bdA 60 24 lrv → 24 - i < n → va_P (dC, dI) vwCl [(b0, .inr (1, [.ref b1, .ref b2, .int (nI tk), .int (nI gv), .int hc, .int ew, .int sl, .int ((-1)), .ref b3, .ref b4, .ref b5, .ref b6])), (b1, .inl (kb1, 24, .inl prv)), (b2, .inl (kb2, 24, .inl lrv)), (b3, .inl (kb3, 1525, .inl tb)), (b4, .inl (kb4, 25, .inl hi)), (b5, .inl (kb5, 24, .inl by_)), (b6, .inl (kb6, 24, .inl se)), (s0, .inr (2, [.int (nI ov), .int (nI st), .int (nI tk), .int (nI gv), .int hc, .int ew, .int sl, .int ca, .int (nI lc), .ref s1, .ref s2])), (s1, .inl (ks1, 24, .inl rm)), (s2, .inl (ks2, 60, .inl lw))] H → va_D A [(b0, .inr (1, [.ref b1, .ref b2, .int (nI tk), .int (nI gv), .int hc, .int ew, .int sl, .int ((-1)), .ref b3, .ref b4, .ref b5, .ref b6])), (b1, .inl (kb1, 24, .inl prv)), (b2, .inl (kb2, 24, .inl lrv)), (b3, .inl (kb3, 1525, .inl tb)), (b4, .inl (kb4, 25, .inl hi)), (b5, .inl (kb5, 24, .inl by_)), (b6, .inl (kb6, 24, .inl se)), (s0, .inr (2, [.int (nI ov), .int (nI st), .int (nI tk), .int (nI gv), .int hc, .int ew, .int sl, .int ca, .int (nI lc), .ref s1, .ref s2])), (s1, .inl (ks1, 24, .inl rm)), (s2, .inl (ks2, 60, .inl lw))] → va_S A s.heap H locs → lv_has ls 3 [(0, .ref b0), (1, .ref s0), (2, .int (nI i))] → W p l e (headSpec wsX1_load { frames := 3, cells := 0, slots := 0, locals := 71 }).room s m args below meth c H locs 0 0 Q (F0 m 47 ls []) := by
    intro n
    induction n with
    | zero => intro i prv lrv H locs ls hL47_0 hL47_1 hn; exact absurd hn (Nat.not_lt_zero _)
    | succ n ih =>
      intro i prv lrv H locs ls hL47_0 hL47_1 hn hP hD hS hl
      refine lv_iload_n hx hb dX1_load_47 rfl (lv_at hl 2 rfl) ?_
      refine lv_bipush (v := nI 24) hx hb dX1_load_48 (by decide) ?_
      refine lv_icmp_ge (tgt := 82) hx hb dX1_load_50 (by decide) (fun c_50 => ?_) (fun c_50 => ?_)
      · have c_50 := (nI_leI (by omega : 24 < 2 ^ 31) (by omega : i < 2 ^ 31)).mp c_50
        subst hQe
        have hP9 := hP.sub (ws' := [(b0, .inr (1, [.ref b1, .ref b2, .int (nI tk), .int (nI gv), .int hc, .int ew, .int sl, .int ((-1)), .ref b3, .ref b4, .ref b5, .ref b6])), (b1, .inl (kb1, 24, .inl prv)), (b2, .inl (kb2, 24, .inl lrv)), (b3, .inl (kb3, 1525, .inl tb)), (b4, .inl (kb4, 25, .inl hi)), (b5, .inl (kb5, 24, .inl by_)), (b6, .inl (kb6, 24, .inl se)), (s0, .inr (2, [.int (nI ov), .int (nI st), .int (nI tk), .int (nI gv), .int hc, .int ew, .int sl, .int ca, .int (nI lc), .ref s1, .ref s2])), (s1, .inl (ks1, 24, .inl rm)), (s2, .inl (ks2, 60, .inl lw))]) [0, 1, 2, 3, 4, 5, 6, 7, 8, 9] rfl
        have hD9 := hD.sub (ws' := [(b0, .inr (1, [.ref b1, .ref b2, .int (nI tk), .int (nI gv), .int hc, .int ew, .int sl, .int ((-1)), .ref b3, .ref b4, .ref b5, .ref b6])), (b1, .inl (kb1, 24, .inl prv)), (b2, .inl (kb2, 24, .inl lrv)), (b3, .inl (kb3, 1525, .inl tb)), (b4, .inl (kb4, 25, .inl hi)), (b5, .inl (kb5, 24, .inl by_)), (b6, .inl (kb6, 24, .inl se)), (s0, .inr (2, [.int (nI ov), .int (nI st), .int (nI tk), .int (nI gv), .int hc, .int ew, .int sl, .int ca, .int (nI lc), .ref s1, .ref s2])), (s1, .inl (ks1, 24, .inl rm)), (s2, .inl (ks2, 60, .inl lw))]) [0, 1, 2, 3, 4, 5, 6, 7, 8, 9] (by decide) rfl
        have hK9 := hK.sub (tys' := [(kb1, .int), (kb2, .int), (kb3, .int), (kb4, .int), (kb5, .int), (kb6, .int), (ks1, .int), (ks2, .int)]) [0, 1, 2, 3, 4, 5, 6, 7] rfl
        subst hAe
        exact W.vret hx hb hr (fun t ht hW => ⟨⟨(), rfl, trivial, tk, gv, hc, ew, sl, ((-1)), prv, lrv, (by first | assumption | omega), (by first | assumption | omega), (by first | assumption | omega), by rw [ht]; exact hP9, va_K.moved hW.alike hK9, hD9⟩, hS.F ht⟩) hS.2.2 dX1_load_82
      · have c_50 := (not_congr (nI_leI (by omega : 24 < 2 ^ 31) (by omega : i < 2 ^ 31))).mp c_50
        refine lv_aload_n hx hb dX1_load_53 rfl (lv_at hl 0 rfl) ?_
        refine va_get (D := (dC, dI)) (ci := 1) (v := .ref b1) (C := RX1) (T := TX1) (N := 12) hx hb hts inX1 hown hK hP 0 rfl rfl 0 (by decide) (hts (.fieldLink RX1 9 "StoreSlopes$Slopes" "prices" "[I") (List.mem_of_getElem? (i := 12) rfl)) (fun _ h9 => h9) rfl dX1_load_54 ?_
        refine lv_iload_n hx hb dX1_load_57 rfl (lv_at hl 2 rfl) ?_
        refine lv_aload_n hx hb dX1_load_58 rfl (lv_at hl 1 rfl) ?_
        refine lv_iload_n hx hb dX1_load_59 rfl (lv_at hl 2 rfl) ?_
        have hPc := hP.sub (ws' := [(s0, .inr (2, [.int (nI ov), .int (nI st), .int (nI tk), .int (nI gv), .int hc, .int ew, .int sl, .int ca, .int (nI lc), .ref s1, .ref s2])), (s1, .inl (ks1, 24, .inl rm)), (s2, .inl (ks2, 60, .inl lw))]) [7, 8, 9] rfl
        have hKc := hK.sub (tys' := [(ks1, .int), (ks2, .int)]) [6, 7] rfl
        refine va_calli (va_runV (As := [.int (nI i)]) (rest := [.int (nI i), .ref b1]) ⟨hx, hb, hml, hown, hts⟩ (c_X2_priceOf l dC dI s0 s1 s2 ks1 ks2 ov st tk gv hc ew sl ca lc rm lw (nI i) (by first | assumption | omega) (by first | assumption | omega) (by first | assumption | omega) (by first | assumption | omega) (by first | assumption | omega) (by first | assumption | omega) ) (cwV 1 hts gX1_load_X2_priceOf rfl rfl rfl (by decide +kernel) ⟨Nat.le_of_ble_eq_true rfl, Nat.le_of_ble_eq_true rfl⟩) ⟨fun a U g mk q => by obtain ⟨q0, qP, qK⟩ := q; exact ⟨q0, qP, va_K.moved (u := U) (U := U.calling g mk a) (Vm.Alike.refl U.vm) qK⟩, va_recv hKc hPc (ci := 2) (q0 := 0) rfl rfl, fun U hU hW => ⟨rfl, by rw [hU]; exact hPc, va_K.moved hW.alike hKc⟩⟩ rfl rfl hl.1 rfl (lv_room (Nat.le_of_ble_eq_true rfl)) dX1_load_60 ⟨Nat.le_of_ble_eq_true rfl, Nat.le_of_ble_eq_true rfl⟩) hS (fun q _ h => h.elim) (fun q h => h.elim) (fun r_1 u t H1 locs ht hvm hw hB hz1 hk1 hS => ?_)
        refine W.widen (k := 0) (n := 0) (Nat.le_of_ble_eq_true rfl) (Nat.le_of_ble_eq_true rfl) ?_
        have hP := hP.kept (H1 := H1) (fun k q hk => hk1 q.1 (hP k q hk).lt (fun h => h))
        clear hz1 hk1 hB ht hvm t
        generalize H1 = H at hP hS ⊢
        have hP : va_P (dC, dI) vwCl [(b0, .inr (1, [.ref b1, .ref b2, .int (nI tk), .int (nI gv), .int hc, .int ew, .int sl, .int ((-1)), .ref b3, .ref b4, .ref b5, .ref b6])), (b1, .inl (kb1, 24, .inl prv)), (b2, .inl (kb2, 24, .inl lrv)), (b3, .inl (kb3, 1525, .inl tb)), (b4, .inl (kb4, 25, .inl hi)), (b5, .inl (kb5, 24, .inl by_)), (b6, .inl (kb6, 24, .inl se)), (s0, .inr (2, [.int (nI ov), .int (nI st), .int (nI tk), .int (nI gv), .int hc, .int ew, .int sl, .int ca, .int (nI lc), .ref s1, .ref s2])), (s1, .inl (ks1, 24, .inl rm)), (s2, .inl (ks2, 60, .inl lw))] H := hP
        clear hw
        refine va_iast hx hb hK hP hD hS 1 0 rfl rfl (vp_in_nI (show i < 24 by omega) (by omega)) dX1_load_63 (fun H locs hP hD hS => ?_)
        have hP : va_P (dC, dI) vwCl [(b0, .inr (1, [.ref b1, .ref b2, .int (nI tk), .int (nI gv), .int hc, .int ew, .int sl, .int ((-1)), .ref b3, .ref b4, .ref b5, .ref b6])), (b1, .inl (kb1, 24, .inl (upd prv (nI i).toNatClampNeg (r_1)))), (b2, .inl (kb2, 24, .inl lrv)), (b3, .inl (kb3, 1525, .inl tb)), (b4, .inl (kb4, 25, .inl hi)), (b5, .inl (kb5, 24, .inl by_)), (b6, .inl (kb6, 24, .inl se)), (s0, .inr (2, [.int (nI ov), .int (nI st), .int (nI tk), .int (nI gv), .int hc, .int ew, .int sl, .int ca, .int (nI lc), .ref s1, .ref s2])), (s1, .inl (ks1, 24, .inl rm)), (s2, .inl (ks2, 60, .inl lw))] H := hP
        have hD : va_D A [(b0, .inr (1, [.ref b1, .ref b2, .int (nI tk), .int (nI gv), .int hc, .int ew, .int sl, .int ((-1)), .ref b3, .ref b4, .ref b5, .ref b6])), (b1, .inl (kb1, 24, .inl (upd prv (nI i).toNatClampNeg (r_1)))), (b2, .inl (kb2, 24, .inl lrv)), (b3, .inl (kb3, 1525, .inl tb)), (b4, .inl (kb4, 25, .inl hi)), (b5, .inl (kb5, 24, .inl by_)), (b6, .inl (kb6, 24, .inl se)), (s0, .inr (2, [.int (nI ov), .int (nI st), .int (nI tk), .int (nI gv), .int hc, .int ew, .int sl, .int ca, .int (nI lc), .ref s1, .ref s2])), (s1, .inl (ks1, 24, .inl rm)), (s2, .inl (ks2, 60, .inl lw))] := hD
        generalize ef_2 : upd prv (nI i).toNatClampNeg (r_1) = f_2 at hP hD
        clear ef_2
        refine lv_aload_n hx hb dX1_load_64 rfl (lv_at hl 0 rfl) ?_
        refine va_get (D := (dC, dI)) (ci := 1) (v := .ref b2) (C := RX1) (T := TX1) (N := 12) hx hb hts inX1 hown hK hP 0 rfl rfl 1 (by decide) (hts (.fieldLink RX1 15 "StoreSlopes$Slopes" "rooms" "[I") (List.mem_of_getElem? (i := 13) rfl)) (fun _ h9 => h9) rfl dX1_load_65 ?_
        refine lv_iload_n hx hb dX1_load_68 rfl (lv_at hl 2 rfl) ?_
        refine lv_aload_n hx hb dX1_load_69 rfl (lv_at hl 1 rfl) ?_
        refine va_get (D := (dC, dI)) (ci := 2) (v := .ref s1) (C := RX2) (T := TX2) (N := 11) hx hb hts inX2 hown hK hP 7 rfl rfl 9 (by decide) (hts (.fieldLink RX1 60 "StoreSlopes$State" "rooms" "[I") (List.mem_of_getElem? (i := 14) rfl)) (fun _ h9 => h9) rfl dX1_load_70 ?_
        refine lv_iload_n hx hb dX1_load_73 rfl (lv_at hl 2 rfl) ?_
        refine va_iald hx hb hK hP 8 6 rfl rfl (vp_in_nI (show i < 24 by omega) (by omega)) dX1_load_74 ?_
        obtain ⟨j_3, hj_3, ej_3⟩ := bdA_get (n := 60) (N := 24) (f := rm) (by assumption) (show i < 24 by omega) (by omega)
        refine tp_as ej_3 ?_
        refine va_iast hx hb hK hP hD hS 2 1 rfl rfl (vp_in_nI (show i < 24 by omega) (by omega)) dX1_load_75 (fun H locs hP hD hS => ?_)
        have hP : va_P (dC, dI) vwCl [(b0, .inr (1, [.ref b1, .ref b2, .int (nI tk), .int (nI gv), .int hc, .int ew, .int sl, .int ((-1)), .ref b3, .ref b4, .ref b5, .ref b6])), (b1, .inl (kb1, 24, .inl f_2)), (b2, .inl (kb2, 24, .inl (upd lrv (nI i).toNatClampNeg (nI j_3)))), (b3, .inl (kb3, 1525, .inl tb)), (b4, .inl (kb4, 25, .inl hi)), (b5, .inl (kb5, 24, .inl by_)), (b6, .inl (kb6, 24, .inl se)), (s0, .inr (2, [.int (nI ov), .int (nI st), .int (nI tk), .int (nI gv), .int hc, .int ew, .int sl, .int ca, .int (nI lc), .ref s1, .ref s2])), (s1, .inl (ks1, 24, .inl rm)), (s2, .inl (ks2, 60, .inl lw))] H := hP
        have hD : va_D A [(b0, .inr (1, [.ref b1, .ref b2, .int (nI tk), .int (nI gv), .int hc, .int ew, .int sl, .int ((-1)), .ref b3, .ref b4, .ref b5, .ref b6])), (b1, .inl (kb1, 24, .inl f_2)), (b2, .inl (kb2, 24, .inl (upd lrv (nI i).toNatClampNeg (nI j_3)))), (b3, .inl (kb3, 1525, .inl tb)), (b4, .inl (kb4, 25, .inl hi)), (b5, .inl (kb5, 24, .inl by_)), (b6, .inl (kb6, 24, .inl se)), (s0, .inr (2, [.int (nI ov), .int (nI st), .int (nI tk), .int (nI gv), .int hc, .int ew, .int sl, .int ca, .int (nI lc), .ref s1, .ref s2])), (s1, .inl (ks1, 24, .inl rm)), (s2, .inl (ks2, 60, .inl lw))] := hD
        generalize ef_4 : upd lrv (nI i).toNatClampNeg (nI j_3) = f_4 at hP hD
        have bf_4 : bdA 60 24 f_4 := bdA_upd (by assumption) ef_4 (by omega) (by omega)
        clear ef_4
        refine lv_iinc (v := nI (i + 1)) (lv' := [(2, .int (nI (i + 1))), (0, .ref b0), (1, .ref s0)]) hx hb dX1_load_76 hl (k := 2) rfl (inc_n i 1) (by decide) rfl (fun ls hl => ?_)
        refine lv_goto (tgt := 47) hx hb dX1_load_79 (by decide) ?_
        exact ih (i + 1) f_2 f_4 _ _ _ (by first | assumption | omega) (by first | assumption | omega) (by omega) hP hD hS (lv_sub hl [1, 2, 0] rfl)
  exact L47 (24 - 0 + 1) 0 pr lr _ _ _ (by first | assumption | omega) (by first | assumption | omega) (Nat.lt_succ_self _) hP hD hS (lv_sub hl [1, 2, 0] rfl)
set_option maxHeartbeats 4000000 in
set_option maxRecDepth 100000 in
theorem c_X1_widen (l : Launch) (dC : Nat → ClassId) (dI : Nat → Nat → Nat) (b0 b1 b2 b3 b4 b5 b6 : Nat) (kb1 kb2 kb3 kb4 kb5 kb6 : ClassId) (sz : Nat) (ltk : Nat) (lgv : Nat) (lhc : Int32) (lew : Int32) (lsl : Int32) (lsh : Int32) (pr : Nat → Int32) (lr : Nat → Int32) (tb : Nat → Int32) (hi : Nat → Int32) (by_ : Nat → Int32) (se : Nat → Int32) (i0 : ltk ≤ 9) (i1 : lgv ≤ 9) (i2 : bdA 60 24 lr) (i3 : bdA 60 25 hi) (i4 : bdA 60 24 by_) (i5 : bdA 60 24 se) : Met l yX1_widen wsX1_widen ({ frames := 1, cells := 0, slots := 0, locals := 21 }) (va_Pc [.ref b0] (fun U => U.heap.size = sz ∧ va_P (dC, dI) vwCl [(b0, .inr (1, [.ref b1, .ref b2, .int (nI ltk), .int (nI lgv), .int lhc, .int lew, .int lsl, .int lsh, .ref b3, .ref b4, .ref b5, .ref b6])), (b1, .inl (kb1, 24, .inl pr)), (b2, .inl (kb2, 24, .inl lr)), (b3, .inl (kb3, 1525, .inl tb)), (b4, .inl (kb4, 25, .inl hi)), (b5, .inl (kb5, 24, .inl by_)), (b6, .inl (kb6, 24, .inl se))] U.heap ∧ va_K (dC, dI) vwCl [(kb1, .int), (kb2, .int), (kb3, .int), (kb4, .int), (kb5, .int), (kb6, .int)] U ∧ va_D (fun _ => True) [(b0, .inr (1, [.ref b1, .ref b2, .int (nI ltk), .int (nI lgv), .int lhc, .int lew, .int lsl, .int lsh, .ref b3, .ref b4, .ref b5, .ref b6])), (b1, .inl (kb1, 24, .inl pr)), (b2, .inl (kb2, 24, .inl lr)), (b3, .inl (kb3, 1525, .inl tb)), (b4, .inl (kb4, 25, .inl hi)), (b5, .inl (kb5, 24, .inl by_)), (b6, .inl (kb6, 24, .inl se))])) (va_Qv (fun _ : Unit => True) (fun _ t => ∃ (lr' : Nat → Int32), bdA 60 24 lr' ∧ va_P (dC, dI) vwCl [(b0, .inr (1, [.ref b1, .ref b2, .int (nI ltk), .int (nI lgv), .int lhc, .int lew, .int lsl, .int lsh, .ref b3, .ref b4, .ref b5, .ref b6])), (b1, .inl (kb1, 24, .inl pr)), (b2, .inl (kb2, 24, .inl lr')), (b3, .inl (kb3, 1525, .inl tb)), (b4, .inl (kb4, 25, .inl hi)), (b5, .inl (kb5, 24, .inl by_)), (b6, .inl (kb6, 24, .inl se))] t.heap ∧ va_K (dC, dI) vwCl [(kb1, .int), (kb2, .int), (kb3, .int), (kb4, .int), (kb5, .int), (kb6, .int)] t ∧ va_D (va_A [(b0, .inr (1, [.ref b1, .ref b2, .int (nI ltk), .int (nI lgv), .int lhc, .int lew, .int lsl, .int lsh, .ref b3, .ref b4, .ref b5, .ref b6])), (b1, .inl (kb1, 24, .inl pr)), (b2, .inl (kb2, 24, .inl lr)), (b3, .inl (kb3, 1525, .inl tb)), (b4, .inl (kb4, 25, .inl hi)), (b5, .inl (kb5, 24, .inl by_)), (b6, .inl (kb6, 24, .inl se))] sz) [(b0, .inr (1, [.ref b1, .ref b2, .int (nI ltk), .int (nI lgv), .int lhc, .int lew, .int lsl, .int lsh, .ref b3, .ref b4, .ref b5, .ref b6])), (b1, .inl (kb1, 24, .inl pr)), (b2, .inl (kb2, 24, .inl lr')), (b3, .inl (kb3, 1525, .inl tb)), (b4, .inl (kb4, 25, .inl hi)), (b5, .inl (kb5, 24, .inl by_)), (b6, .inl (kb6, 24, .inl se))]) (va_A [(b0, .inr (1, [.ref b1, .ref b2, .int (nI ltk), .int (nI lgv), .int lhc, .int lew, .int lsl, .int lsh, .ref b3, .ref b4, .ref b5, .ref b6])), (b1, .inl (kb1, 24, .inl pr)), (b2, .inl (kb2, 24, .inl lr)), (b3, .inl (kb3, 1525, .inl tb)), (b4, .inl (kb4, 25, .inl hi)), (b5, .inl (kb5, 24, .inl by_)), (b6, .inl (kb6, 24, .inl se))] sz)) 0 0 (va_A [(b0, .inr (1, [.ref b1, .ref b2, .int (nI ltk), .int (nI lgv), .int lhc, .int lew, .int lsl, .int lsh, .ref b3, .ref b4, .ref b5, .ref b6])), (b1, .inl (kb1, 24, .inl pr)), (b2, .inl (kb2, 24, .inl lr)), (b3, .inl (kb3, 1525, .inl tb)), (b4, .inl (kb4, 25, .inl hi)), (b5, .inl (kb5, 24, .inl by_)), (b6, .inl (kb6, 24, .inl se))] sz) := by
  refine Met.ofW (cc := cX1_widen) (maxL := 2) (ret := none) (by decide) rfl ?_
  intro p e s m args below meth c s₁ B hml hv
  obtain ⟨rfl, hsz, hP, hK, hD0⟩ := hv
  have hx := B.exec
  have hb := B.bytes
  have hr := B.returns
  have hts := atoms_spec (ws := wsX1_widen) B.pre
  have hown : s.vm.findClass RX1 = some m.cls := findClass_of_methodNamed B.named
  have hlocks := B.notSynchronized
  have inX1 : ∀ w ∈ wsX10, w ∈ wsX1_widen := fun _ h => List.mem_cons_of_mem _ (List.mem_append_right _ h)
  subst hsz
  have hD := hD0.self (sz := s.heap.size)
  generalize hAe : va_A [(b0, .inr (1, [.ref b1, .ref b2, .int (nI ltk), .int (nI lgv), .int lhc, .int lew, .int lsl, .int lsh, .ref b3, .ref b4, .ref b5, .ref b6])), (b1, .inl (kb1, 24, .inl pr)), (b2, .inl (kb2, 24, .inl lr)), (b3, .inl (kb3, 1525, .inl tb)), (b4, .inl (kb4, 25, .inl hi)), (b5, .inl (kb5, 24, .inl by_)), (b6, .inl (kb6, 24, .inl se))] s.heap.size = A at hD ⊢
  have hA : ∀ q : Nat, s.heap.size ≤ q → A q := fun q h => by rw [← hAe]; exact Or.inr h
  have hS : va_S A s.heap s.heap [] := va_S.rf
  have hl := lv_entry ([.ref b0]) (n := 2) (Nat.le_of_ble_eq_true rfl)
  rw [lg_entry_eq]
  generalize (lg_sl ([.ref b0]) ++ List.replicate (2 - (lg_sl ([.ref b0])).length) Slot.unset).toArray = ls at hl ⊢
  generalize hQe : MQ below _ _ s 0 0 _ = Q
  generalize ([.ref b0] : List Value).toArray = args at hts hQe ⊢
  have hl : lv_has ls 2 [(0, .ref b0)] := hl
  refine lv_iconst (v := nI 0) hx hb dX1_widen_0 (by decide) ?_
  refine lv_istore_n (lv' := [(1, .int (nI 0)), (0, .ref b0)]) hx hb dX1_widen_1 rfl hl (by decide) rfl (fun ls hl => ?_)
  have L2 : ∀ (n : Nat) (i : Nat) (lrv : Nat → Int32) (H : Heap) (locs : List Loc) (ls : Array Slot), i ≤ 24 → bdA 60 24 lrv → 24 - i < n → va_P (dC, dI) vwCl [(b0, .inr (1, [.ref b1, .ref b2, .int (nI ltk), .int (nI lgv), .int lhc, .int lew, .int lsl, .int lsh, .ref b3, .ref b4, .ref b5, .ref b6])), (b1, .inl (kb1, 24, .inl pr)), (b2, .inl (kb2, 24, .inl lrv)), (b3, .inl (kb3, 1525, .inl tb)), (b4, .inl (kb4, 25, .inl hi)), (b5, .inl (kb5, 24, .inl by_)), (b6, .inl (kb6, 24, .inl se))] H → va_D A [(b0, .inr (1, [.ref b1, .ref b2, .int (nI ltk), .int (nI lgv), .int lhc, .int lew, .int lsl, .int lsh, .ref b3, .ref b4, .ref b5, .ref b6])), (b1, .inl (kb1, 24, .inl pr)), (b2, .inl (kb2, 24, .inl lrv)), (b3, .inl (kb3, 1525, .inl tb)), (b4, .inl (kb4, 25, .inl hi)), (b5, .inl (kb5, 24, .inl by_)), (b6, .inl (kb6, 24, .inl se))] → va_S A s.heap H locs → lv_has ls 2 [(0, .ref b0), (1, .int (nI i))] → W p l e (headSpec wsX1_widen { frames := 1, cells := 0, slots := 0, locals := 21 }).room s m args below meth c H locs 0 0 Q (F0 m 2 ls []) := by
    intro n
    induction n with
    | zero => intro i lrv H locs ls hL2_0 hL2_1 hn; exact absurd hn (Nat.not_lt_zero _)
    | succ n ih =>
      intro i lrv H locs ls hL2_0 hL2_1 hn hP hD hS hl
      refine lv_iload_n hx hb dX1_widen_2 rfl (lv_at hl 1 rfl) ?_
      refine lv_bipush (v := nI 24) hx hb dX1_widen_3 (by decide) ?_
      refine lv_icmp_ge (tgt := 33) hx hb dX1_widen_5 (by decide) (fun c_5 => ?_) (fun c_5 => ?_)
      · have c_5 := (nI_leI (by omega : 24 < 2 ^ 31) (by omega : i < 2 ^ 31)).mp c_5
        subst hQe
        have hP9 := hP.sub (ws' := [(b0, .inr (1, [.ref b1, .ref b2, .int (nI ltk), .int (nI lgv), .int lhc, .int lew, .int lsl, .int lsh, .ref b3, .ref b4, .ref b5, .ref b6])), (b1, .inl (kb1, 24, .inl pr)), (b2, .inl (kb2, 24, .inl lrv)), (b3, .inl (kb3, 1525, .inl tb)), (b4, .inl (kb4, 25, .inl hi)), (b5, .inl (kb5, 24, .inl by_)), (b6, .inl (kb6, 24, .inl se))]) [0, 1, 2, 3, 4, 5, 6] rfl
        have hD9 := hD.sub (ws' := [(b0, .inr (1, [.ref b1, .ref b2, .int (nI ltk), .int (nI lgv), .int lhc, .int lew, .int lsl, .int lsh, .ref b3, .ref b4, .ref b5, .ref b6])), (b1, .inl (kb1, 24, .inl pr)), (b2, .inl (kb2, 24, .inl lrv)), (b3, .inl (kb3, 1525, .inl tb)), (b4, .inl (kb4, 25, .inl hi)), (b5, .inl (kb5, 24, .inl by_)), (b6, .inl (kb6, 24, .inl se))]) [0, 1, 2, 3, 4, 5, 6] (by decide) rfl
        have hK9 := hK.sub (tys' := [(kb1, .int), (kb2, .int), (kb3, .int), (kb4, .int), (kb5, .int), (kb6, .int)]) [0, 1, 2, 3, 4, 5] rfl
        subst hAe
        exact W.vret hx hb hr (fun t ht hW => ⟨⟨(), rfl, trivial, lrv, (by first | assumption | omega), by rw [ht]; exact hP9, va_K.moved hW.alike hK9, hD9⟩, hS.F ht⟩) hS.2.2 dX1_widen_33
      · have c_5 := (not_congr (nI_leI (by omega : 24 < 2 ^ 31) (by omega : i < 2 ^ 31))).mp c_5
        refine lv_aload_n hx hb dX1_widen_8 rfl (lv_at hl 0 rfl) ?_
        refine va_get (D := (dC, dI)) (ci := 1) (v := .ref b2) (C := RX1) (T := TX1) (N := 12) hx hb hts inX1 hown hK hP 0 rfl rfl 1 (by decide) (hts (.fieldLink RX1 15 "StoreSlopes$Slopes" "rooms" "[I") (List.mem_of_getElem? (i := 1) rfl)) (fun _ h9 => h9) rfl dX1_widen_9 ?_
        refine lv_iload_n hx hb dX1_widen_12 rfl (lv_at hl 1 rfl) ?_
        refine lv_bipush (v := nI 60) hx hb dX1_widen_13 (by decide) ?_
        refine lv_aload_n hx hb dX1_widen_15 rfl (lv_at hl 0 rfl) ?_
        refine va_get (D := (dC, dI)) (ci := 1) (v := .ref b2) (C := RX1) (T := TX1) (N := 12) hx hb hts inX1 hown hK hP 0 rfl rfl 1 (by decide) (hts (.fieldLink RX1 15 "StoreSlopes$Slopes" "rooms" "[I") (List.mem_of_getElem? (i := 1) rfl)) (fun _ h9 => h9) rfl dX1_widen_16 ?_
        refine lv_iload_n hx hb dX1_widen_19 rfl (lv_at hl 1 rfl) ?_
        refine va_iald hx hb hK hP 2 1 rfl rfl (vp_in_nI (show i < 24 by omega) (by omega)) dX1_widen_20 ?_
        obtain ⟨j_1, hj_1, ej_1⟩ := bdA_get (n := 60) (N := 24) (f := lrv) (by assumption) (show i < 24 by omega) (by omega)
        refine tp_as ej_1 ?_
        refine lv_iconst (v := nI 1) hx hb dX1_widen_21 (by decide) ?_
        refine lv_iadd hx hb dX1_widen_22 ?_
        refine tp_as (nI_add j_1 1) ?_
        refine va_mmin hx hb (hml.trans hl.1.symm) (own := RX1) hown (hts (.methodLink RX1 61 Lib.Math.min.name) (List.mem_of_getElem? (i := 2) rfl)) (hts (.static Lib.Math.min.name) (List.mem_of_getElem? (i := 3) rfl)) (hts (.initialized "java/lang/Math") (List.mem_of_getElem? (i := 4) rfl)) (hts (.code Lib.Math.min.name Lib.Math.min.code 2 (some .int)) (List.mem_of_getElem? (i := 5) rfl)) (Nat.le_of_ble_eq_true rfl) (Nat.le_of_ble_eq_true rfl) (Nat.le_of_ble_eq_true rfl) (Nat.le_of_ble_eq_true rfl) dX1_widen_23 ?_
        refine tp_as (mm_min (a := 60) (b := j_1 + 1) (by omega) (by omega)) ?_
        refine va_iast hx hb hK hP hD hS 2 1 rfl rfl (vp_in_nI (show i < 24 by omega) (by omega)) dX1_widen_26 (fun H locs hP hD hS => ?_)
        have hP : va_P (dC, dI) vwCl [(b0, .inr (1, [.ref b1, .ref b2, .int (nI ltk), .int (nI lgv), .int lhc, .int lew, .int lsl, .int lsh, .ref b3, .ref b4, .ref b5, .ref b6])), (b1, .inl (kb1, 24, .inl pr)), (b2, .inl (kb2, 24, .inl (upd lrv (nI i).toNatClampNeg (nI (min 60 (j_1 + 1)))))), (b3, .inl (kb3, 1525, .inl tb)), (b4, .inl (kb4, 25, .inl hi)), (b5, .inl (kb5, 24, .inl by_)), (b6, .inl (kb6, 24, .inl se))] H := hP
        have hD : va_D A [(b0, .inr (1, [.ref b1, .ref b2, .int (nI ltk), .int (nI lgv), .int lhc, .int lew, .int lsl, .int lsh, .ref b3, .ref b4, .ref b5, .ref b6])), (b1, .inl (kb1, 24, .inl pr)), (b2, .inl (kb2, 24, .inl (upd lrv (nI i).toNatClampNeg (nI (min 60 (j_1 + 1)))))), (b3, .inl (kb3, 1525, .inl tb)), (b4, .inl (kb4, 25, .inl hi)), (b5, .inl (kb5, 24, .inl by_)), (b6, .inl (kb6, 24, .inl se))] := hD
        generalize ef_2 : upd lrv (nI i).toNatClampNeg (nI (min 60 (j_1 + 1))) = f_2 at hP hD
        have bf_2 : bdA 60 24 f_2 := bdA_upd (by assumption) ef_2 (by omega) (by omega)
        clear ef_2
        refine lv_iinc (v := nI (i + 1)) (lv' := [(1, .int (nI (i + 1))), (0, .ref b0)]) hx hb dX1_widen_27 hl (k := 1) rfl (inc_n i 1) (by decide) rfl (fun ls hl => ?_)
        refine lv_goto (tgt := 2) hx hb dX1_widen_30 (by decide) ?_
        exact ih (i + 1) f_2 _ _ _ (by first | assumption | omega) (by first | assumption | omega) (by omega) hP hD hS (lv_sub hl [1, 0] rfl)
  exact L2 (24 - 0 + 1) 0 lr _ _ _ (by first | assumption | omega) (by first | assumption | omega) (Nat.lt_succ_self _) hP hD hS (lv_sub hl [1, 0] rfl)
set_option maxHeartbeats 4000000 in
set_option maxRecDepth 100000 in
theorem c_X1_solveEnd (l : Launch) (dC : Nat → ClassId) (dI : Nat → Nat → Nat) (b0 b1 b2 b3 b4 b5 b6 : Nat) (kb1 kb2 kb3 kb4 kb5 kb6 : ClassId) (sz : Nat) (ltk : Nat) (lgv : Nat) (lhc : Int32) (lew : Int32) (lsl : Int32) (lsh : Int32) (pr : Nat → Int32) (lr : Nat → Int32) (tb : Nat → Int32) (hi : Nat → Int32) (by_ : Nat → Int32) (se : Nat → Int32) (i0 : ltk ≤ 9) (i1 : lgv ≤ 9) (i2 : bdA 60 24 lr) (i3 : bdA 60 25 hi) (i4 : bdA 60 24 by_) (i5 : bdA 60 24 se) : Met l yX1_solveEnd wsX1_solveEnd ({ frames := 0, cells := 0, slots := 0, locals := 0 }) (va_Pc [.ref b0] (fun U => U.heap.size = sz ∧ va_P (dC, dI) vwCl [(b0, .inr (1, [.ref b1, .ref b2, .int (nI ltk), .int (nI lgv), .int lhc, .int lew, .int lsl, .int lsh, .ref b3, .ref b4, .ref b5, .ref b6])), (b1, .inl (kb1, 24, .inl pr)), (b2, .inl (kb2, 24, .inl lr)), (b3, .inl (kb3, 1525, .inl tb)), (b4, .inl (kb4, 25, .inl hi)), (b5, .inl (kb5, 24, .inl by_)), (b6, .inl (kb6, 24, .inl se))] U.heap ∧ va_K (dC, dI) vwCl [(kb1, .int), (kb2, .int), (kb3, .int), (kb4, .int), (kb5, .int), (kb6, .int)] U ∧ va_D (fun _ => True) [(b0, .inr (1, [.ref b1, .ref b2, .int (nI ltk), .int (nI lgv), .int lhc, .int lew, .int lsl, .int lsh, .ref b3, .ref b4, .ref b5, .ref b6])), (b1, .inl (kb1, 24, .inl pr)), (b2, .inl (kb2, 24, .inl lr)), (b3, .inl (kb3, 1525, .inl tb)), (b4, .inl (kb4, 25, .inl hi)), (b5, .inl (kb5, 24, .inl by_)), (b6, .inl (kb6, 24, .inl se))])) (va_Qv (fun _ : Unit => True) (fun _ t => ∃ (tb' : Nat → Int32) (hi' : Nat → Int32), bdA 60 25 hi' ∧ va_P (dC, dI) vwCl [(b0, .inr (1, [.ref b1, .ref b2, .int (nI ltk), .int (nI lgv), .int lhc, .int lew, .int lsl, .int lsh, .ref b3, .ref b4, .ref b5, .ref b6])), (b1, .inl (kb1, 24, .inl pr)), (b2, .inl (kb2, 24, .inl lr)), (b3, .inl (kb3, 1525, .inl tb')), (b4, .inl (kb4, 25, .inl hi')), (b5, .inl (kb5, 24, .inl by_)), (b6, .inl (kb6, 24, .inl se))] t.heap ∧ va_K (dC, dI) vwCl [(kb1, .int), (kb2, .int), (kb3, .int), (kb4, .int), (kb5, .int), (kb6, .int)] t ∧ va_D (va_A [(b0, .inr (1, [.ref b1, .ref b2, .int (nI ltk), .int (nI lgv), .int lhc, .int lew, .int lsl, .int lsh, .ref b3, .ref b4, .ref b5, .ref b6])), (b1, .inl (kb1, 24, .inl pr)), (b2, .inl (kb2, 24, .inl lr)), (b3, .inl (kb3, 1525, .inl tb)), (b4, .inl (kb4, 25, .inl hi)), (b5, .inl (kb5, 24, .inl by_)), (b6, .inl (kb6, 24, .inl se))] sz) [(b0, .inr (1, [.ref b1, .ref b2, .int (nI ltk), .int (nI lgv), .int lhc, .int lew, .int lsl, .int lsh, .ref b3, .ref b4, .ref b5, .ref b6])), (b1, .inl (kb1, 24, .inl pr)), (b2, .inl (kb2, 24, .inl lr)), (b3, .inl (kb3, 1525, .inl tb')), (b4, .inl (kb4, 25, .inl hi')), (b5, .inl (kb5, 24, .inl by_)), (b6, .inl (kb6, 24, .inl se))]) (va_A [(b0, .inr (1, [.ref b1, .ref b2, .int (nI ltk), .int (nI lgv), .int lhc, .int lew, .int lsl, .int lsh, .ref b3, .ref b4, .ref b5, .ref b6])), (b1, .inl (kb1, 24, .inl pr)), (b2, .inl (kb2, 24, .inl lr)), (b3, .inl (kb3, 1525, .inl tb)), (b4, .inl (kb4, 25, .inl hi)), (b5, .inl (kb5, 24, .inl by_)), (b6, .inl (kb6, 24, .inl se))] sz)) 0 0 (va_A [(b0, .inr (1, [.ref b1, .ref b2, .int (nI ltk), .int (nI lgv), .int lhc, .int lew, .int lsl, .int lsh, .ref b3, .ref b4, .ref b5, .ref b6])), (b1, .inl (kb1, 24, .inl pr)), (b2, .inl (kb2, 24, .inl lr)), (b3, .inl (kb3, 1525, .inl tb)), (b4, .inl (kb4, 25, .inl hi)), (b5, .inl (kb5, 24, .inl by_)), (b6, .inl (kb6, 24, .inl se))] sz) := by
  refine Met.ofW (cc := cX1_solveEnd) (maxL := 2) (ret := none) (by decide) rfl ?_
  intro p e s m args below meth c s₁ B hml hv
  obtain ⟨rfl, hsz, hP, hK, hD0⟩ := hv
  have hx := B.exec
  have hb := B.bytes
  have hr := B.returns
  have hts := atoms_spec (ws := wsX1_solveEnd) B.pre
  have hown : s.vm.findClass RX1 = some m.cls := findClass_of_methodNamed B.named
  have hlocks := B.notSynchronized
  have inX1 : ∀ w ∈ wsX10, w ∈ wsX1_solveEnd := fun _ h => List.mem_cons_of_mem _ (List.mem_append_right _ h)
  subst hsz
  have hD := hD0.self (sz := s.heap.size)
  generalize hAe : va_A [(b0, .inr (1, [.ref b1, .ref b2, .int (nI ltk), .int (nI lgv), .int lhc, .int lew, .int lsl, .int lsh, .ref b3, .ref b4, .ref b5, .ref b6])), (b1, .inl (kb1, 24, .inl pr)), (b2, .inl (kb2, 24, .inl lr)), (b3, .inl (kb3, 1525, .inl tb)), (b4, .inl (kb4, 25, .inl hi)), (b5, .inl (kb5, 24, .inl by_)), (b6, .inl (kb6, 24, .inl se))] s.heap.size = A at hD ⊢
  have hA : ∀ q : Nat, s.heap.size ≤ q → A q := fun q h => by rw [← hAe]; exact Or.inr h
  have hS : va_S A s.heap s.heap [] := va_S.rf
  have hl := lv_entry ([.ref b0]) (n := 2) (Nat.le_of_ble_eq_true rfl)
  rw [lg_entry_eq]
  generalize (lg_sl ([.ref b0]) ++ List.replicate (2 - (lg_sl ([.ref b0])).length) Slot.unset).toArray = ls at hl ⊢
  generalize hQe : MQ below _ _ s 0 0 _ = Q
  generalize ([.ref b0] : List Value).toArray = args at hts hQe ⊢
  have hl : lv_has ls 2 [(0, .ref b0)] := hl
  refine lv_aload_n hx hb dX1_solveEnd_0 rfl (lv_at hl 0 rfl) ?_
  refine va_get (D := (dC, dI)) (ci := 1) (v := .ref b4) (C := RX1) (T := TX1) (N := 12) hx hb hts inX1 hown hK hP 0 rfl rfl 9 (by decide) (hts (.fieldLink RX1 21 "StoreSlopes$Slopes" "highest" "[I") (List.mem_of_getElem? (i := 1) rfl)) (fun _ h9 => h9) rfl dX1_solveEnd_1 ?_
  refine lv_bipush (v := nI 24) hx hb dX1_solveEnd_4 (by decide) ?_
  refine lv_bipush (v := nI 60) hx hb dX1_solveEnd_6 (by decide) ?_
  refine va_iast hx hb hK hP hD hS 4 3 rfl rfl (vp_in_nI (show 24 < 25 by omega) (by omega)) dX1_solveEnd_8 (fun H locs hP hD hS => ?_)
  have hP : va_P (dC, dI) vwCl [(b0, .inr (1, [.ref b1, .ref b2, .int (nI ltk), .int (nI lgv), .int lhc, .int lew, .int lsl, .int lsh, .ref b3, .ref b4, .ref b5, .ref b6])), (b1, .inl (kb1, 24, .inl pr)), (b2, .inl (kb2, 24, .inl lr)), (b3, .inl (kb3, 1525, .inl tb)), (b4, .inl (kb4, 25, .inl (upd hi (nI 24).toNatClampNeg (nI 60)))), (b5, .inl (kb5, 24, .inl by_)), (b6, .inl (kb6, 24, .inl se))] H := hP
  have hD : va_D A [(b0, .inr (1, [.ref b1, .ref b2, .int (nI ltk), .int (nI lgv), .int lhc, .int lew, .int lsl, .int lsh, .ref b3, .ref b4, .ref b5, .ref b6])), (b1, .inl (kb1, 24, .inl pr)), (b2, .inl (kb2, 24, .inl lr)), (b3, .inl (kb3, 1525, .inl tb)), (b4, .inl (kb4, 25, .inl (upd hi (nI 24).toNatClampNeg (nI 60)))), (b5, .inl (kb5, 24, .inl by_)), (b6, .inl (kb6, 24, .inl se))] := hD
  generalize ef_1 : upd hi (nI 24).toNatClampNeg (nI 60) = f_1 at hP hD
  have bf_1 : bdA 60 25 f_1 := bdA_upd (by assumption) ef_1 (by omega) (by omega)
  clear ef_1
  refine lv_iconst (v := nI 0) hx hb dX1_solveEnd_9 (by decide) ?_
  refine lv_istore_n (lv' := [(1, .int (nI 0)), (0, .ref b0)]) hx hb dX1_solveEnd_10 rfl hl (by decide) rfl (fun ls hl => ?_)
  have L11 : ∀ (n : Nat) (x : Nat) (tbv : Nat → Int32) (H : Heap) (locs : List Loc) (ls : Array Slot), x ≤ 61 → 61 - x < n → va_P (dC, dI) vwCl [(b0, .inr (1, [.ref b1, .ref b2, .int (nI ltk), .int (nI lgv), .int lhc, .int lew, .int lsl, .int lsh, .ref b3, .ref b4, .ref b5, .ref b6])), (b1, .inl (kb1, 24, .inl pr)), (b2, .inl (kb2, 24, .inl lr)), (b3, .inl (kb3, 1525, .inl tbv)), (b4, .inl (kb4, 25, .inl f_1)), (b5, .inl (kb5, 24, .inl by_)), (b6, .inl (kb6, 24, .inl se))] H → va_D A [(b0, .inr (1, [.ref b1, .ref b2, .int (nI ltk), .int (nI lgv), .int lhc, .int lew, .int lsl, .int lsh, .ref b3, .ref b4, .ref b5, .ref b6])), (b1, .inl (kb1, 24, .inl pr)), (b2, .inl (kb2, 24, .inl lr)), (b3, .inl (kb3, 1525, .inl tbv)), (b4, .inl (kb4, 25, .inl f_1)), (b5, .inl (kb5, 24, .inl by_)), (b6, .inl (kb6, 24, .inl se))] → va_S A s.heap H locs → lv_has ls 2 [(0, .ref b0), (1, .int (nI x))] → W p l e (headSpec wsX1_solveEnd { frames := 0, cells := 0, slots := 0, locals := 0 }).room s m args below meth c H locs 0 0 Q (F0 m 11 ls []) := by
    intro n
    induction n with
    | zero => intro x tbv H locs ls hL11_0 hn; exact absurd hn (Nat.not_lt_zero _)
    | succ n ih =>
      intro x tbv H locs ls hL11_0 hn hP hD hS hl
      refine lv_iload_n hx hb dX1_solveEnd_11 rfl (lv_at hl 1 rfl) ?_
      refine lv_bipush (v := nI 60) hx hb dX1_solveEnd_12 (by decide) ?_
      refine lv_icmp_gt (tgt := 39) hx hb dX1_solveEnd_14 (by decide) (fun c_14 => ?_) (fun c_14 => ?_)
      · have c_14 := (nI_ltI (by omega : 60 < 2 ^ 31) (by omega : x < 2 ^ 31)).mp c_14
        subst hQe
        have hP9 := hP.sub (ws' := [(b0, .inr (1, [.ref b1, .ref b2, .int (nI ltk), .int (nI lgv), .int lhc, .int lew, .int lsl, .int lsh, .ref b3, .ref b4, .ref b5, .ref b6])), (b1, .inl (kb1, 24, .inl pr)), (b2, .inl (kb2, 24, .inl lr)), (b3, .inl (kb3, 1525, .inl tbv)), (b4, .inl (kb4, 25, .inl f_1)), (b5, .inl (kb5, 24, .inl by_)), (b6, .inl (kb6, 24, .inl se))]) [0, 1, 2, 3, 4, 5, 6] rfl
        have hD9 := hD.sub (ws' := [(b0, .inr (1, [.ref b1, .ref b2, .int (nI ltk), .int (nI lgv), .int lhc, .int lew, .int lsl, .int lsh, .ref b3, .ref b4, .ref b5, .ref b6])), (b1, .inl (kb1, 24, .inl pr)), (b2, .inl (kb2, 24, .inl lr)), (b3, .inl (kb3, 1525, .inl tbv)), (b4, .inl (kb4, 25, .inl f_1)), (b5, .inl (kb5, 24, .inl by_)), (b6, .inl (kb6, 24, .inl se))]) [0, 1, 2, 3, 4, 5, 6] (by decide) rfl
        have hK9 := hK.sub (tys' := [(kb1, .int), (kb2, .int), (kb3, .int), (kb4, .int), (kb5, .int), (kb6, .int)]) [0, 1, 2, 3, 4, 5] rfl
        subst hAe
        exact W.vret hx hb hr (fun t ht hW => ⟨⟨(), rfl, trivial, tbv, f_1, (by first | assumption | omega), by rw [ht]; exact hP9, va_K.moved hW.alike hK9, hD9⟩, hS.F ht⟩) hS.2.2 dX1_solveEnd_39
      · have c_14 := (not_congr (nI_ltI (by omega : 60 < 2 ^ 31) (by omega : x < 2 ^ 31))).mp c_14
        refine lv_aload_n hx hb dX1_solveEnd_17 rfl (lv_at hl 0 rfl) ?_
        refine va_get (D := (dC, dI)) (ci := 1) (v := .ref b3) (C := RX1) (T := TX1) (N := 12) hx hb hts inX1 hown hK hP 0 rfl rfl 8 (by decide) (hts (.fieldLink RX1 18 "StoreSlopes$Slopes" "table" "[I") (List.mem_of_getElem? (i := 2) rfl)) (fun _ h9 => h9) rfl dX1_solveEnd_18 ?_
        refine lv_sipush (v := nI 1464) hx hb dX1_solveEnd_21 (by decide) ?_
        refine lv_iload_n hx hb dX1_solveEnd_24 rfl (lv_at hl 1 rfl) ?_
        refine lv_iadd hx hb dX1_solveEnd_25 ?_
        refine tp_as (nI_add 1464 x) ?_
        refine lv_aload_n hx hb dX1_solveEnd_26 rfl (lv_at hl 0 rfl) ?_
        refine va_get (D := (dC, dI)) (ci := 1) (v := .int lew) (C := RX1) (T := TX1) (N := 12) hx hb hts inX1 hown hK hP 0 rfl rfl 5 (by decide) (hts (.fieldLink RX1 48 "StoreSlopes$Slopes" "endWorth" "I") (List.mem_of_getElem? (i := 3) rfl)) (fun _ h9 => h9) rfl dX1_solveEnd_27 ?_
        refine lv_iload_n hx hb dX1_solveEnd_30 rfl (lv_at hl 1 rfl) ?_
        refine lv_imul hx hb dX1_solveEnd_31 ?_
        refine tp_any (fun y_2 => ?_)
        refine va_iast hx hb hK hP hD hS 3 2 rfl rfl (vp_in_nI (show 1464 + x < 1525 by omega) (by omega)) dX1_solveEnd_32 (fun H locs hP hD hS => ?_)
        have hP : va_P (dC, dI) vwCl [(b0, .inr (1, [.ref b1, .ref b2, .int (nI ltk), .int (nI lgv), .int lhc, .int lew, .int lsl, .int lsh, .ref b3, .ref b4, .ref b5, .ref b6])), (b1, .inl (kb1, 24, .inl pr)), (b2, .inl (kb2, 24, .inl lr)), (b3, .inl (kb3, 1525, .inl (upd tbv (nI (1464 + x)).toNatClampNeg (y_2)))), (b4, .inl (kb4, 25, .inl f_1)), (b5, .inl (kb5, 24, .inl by_)), (b6, .inl (kb6, 24, .inl se))] H := hP
        have hD : va_D A [(b0, .inr (1, [.ref b1, .ref b2, .int (nI ltk), .int (nI lgv), .int lhc, .int lew, .int lsl, .int lsh, .ref b3, .ref b4, .ref b5, .ref b6])), (b1, .inl (kb1, 24, .inl pr)), (b2, .inl (kb2, 24, .inl lr)), (b3, .inl (kb3, 1525, .inl (upd tbv (nI (1464 + x)).toNatClampNeg (y_2)))), (b4, .inl (kb4, 25, .inl f_1)), (b5, .inl (kb5, 24, .inl by_)), (b6, .inl (kb6, 24, .inl se))] := hD
        generalize ef_3 : upd tbv (nI (1464 + x)).toNatClampNeg (y_2) = f_3 at hP hD
        clear ef_3
        refine lv_iinc (v := nI (x + 1)) (lv' := [(1, .int (nI (x + 1))), (0, .ref b0)]) hx hb dX1_solveEnd_33 hl (k := 1) rfl (inc_n x 1) (by decide) rfl (fun ls hl => ?_)
        refine lv_goto (tgt := 11) hx hb dX1_solveEnd_36 (by decide) ?_
        exact ih (x + 1) f_3 _ _ _ (by first | assumption | omega) (by omega) hP hD hS (lv_sub hl [1, 0] rfl)
  exact L11 (61 - 0 + 1) 0 tb _ _ _ (by first | assumption | omega) (Nat.lt_succ_self _) hP hD hS (lv_sub hl [1, 0] rfl)
set_option maxHeartbeats 4000000 in
set_option maxRecDepth 100000 in
theorem c_X1_solveHour (l : Launch) (dC : Nat → ClassId) (dI : Nat → Nat → Nat) (b0 b1 b2 b3 b4 b5 b6 : Nat) (kb1 kb2 kb3 kb4 kb5 kb6 : ClassId) (sz : Nat) (ltk : Nat) (lgv : Nat) (lhc : Int32) (lew : Int32) (lsl : Int32) (lsh : Int32) (pr : Nat → Int32) (lr : Nat → Int32) (tb : Nat → Int32) (hi : Nat → Int32) (by_ : Nat → Int32) (se : Nat → Int32) (h : Nat) (i0 : ltk ≤ 9) (i1 : lgv ≤ 9) (i2 : bdA 60 24 lr) (i3 : bdA 60 25 hi) (i4 : bdA 60 24 by_) (i5 : bdA 60 24 se) (g0 : h < 24) : Met l yX1_solveHour wsX1_solveHour ({ frames := 3, cells := 0, slots := 0, locals := 69 }) (va_Pc [.ref b0, .int (nI h)] (fun U => U.heap.size = sz ∧ va_P (dC, dI) vwCl [(b0, .inr (1, [.ref b1, .ref b2, .int (nI ltk), .int (nI lgv), .int lhc, .int lew, .int lsl, .int lsh, .ref b3, .ref b4, .ref b5, .ref b6])), (b1, .inl (kb1, 24, .inl pr)), (b2, .inl (kb2, 24, .inl lr)), (b3, .inl (kb3, 1525, .inl tb)), (b4, .inl (kb4, 25, .inl hi)), (b5, .inl (kb5, 24, .inl by_)), (b6, .inl (kb6, 24, .inl se))] U.heap ∧ va_K (dC, dI) vwCl [(kb1, .int), (kb2, .int), (kb3, .int), (kb4, .int), (kb5, .int), (kb6, .int)] U ∧ va_D (fun _ => True) [(b0, .inr (1, [.ref b1, .ref b2, .int (nI ltk), .int (nI lgv), .int lhc, .int lew, .int lsl, .int lsh, .ref b3, .ref b4, .ref b5, .ref b6])), (b1, .inl (kb1, 24, .inl pr)), (b2, .inl (kb2, 24, .inl lr)), (b3, .inl (kb3, 1525, .inl tb)), (b4, .inl (kb4, 25, .inl hi)), (b5, .inl (kb5, 24, .inl by_)), (b6, .inl (kb6, 24, .inl se))])) (va_Qv (fun _ : Unit => True) (fun _ t => ∃ (tb' : Nat → Int32) (hi' : Nat → Int32) (by_' : Nat → Int32) (se' : Nat → Int32), bdA 60 25 hi' ∧ bdA 60 24 by_' ∧ bdA 60 24 se' ∧ va_P (dC, dI) vwCl [(b0, .inr (1, [.ref b1, .ref b2, .int (nI ltk), .int (nI lgv), .int lhc, .int lew, .int lsl, .int lsh, .ref b3, .ref b4, .ref b5, .ref b6])), (b1, .inl (kb1, 24, .inl pr)), (b2, .inl (kb2, 24, .inl lr)), (b3, .inl (kb3, 1525, .inl tb')), (b4, .inl (kb4, 25, .inl hi')), (b5, .inl (kb5, 24, .inl by_')), (b6, .inl (kb6, 24, .inl se'))] t.heap ∧ va_K (dC, dI) vwCl [(kb1, .int), (kb2, .int), (kb3, .int), (kb4, .int), (kb5, .int), (kb6, .int)] t ∧ va_D (va_A [(b0, .inr (1, [.ref b1, .ref b2, .int (nI ltk), .int (nI lgv), .int lhc, .int lew, .int lsl, .int lsh, .ref b3, .ref b4, .ref b5, .ref b6])), (b1, .inl (kb1, 24, .inl pr)), (b2, .inl (kb2, 24, .inl lr)), (b3, .inl (kb3, 1525, .inl tb)), (b4, .inl (kb4, 25, .inl hi)), (b5, .inl (kb5, 24, .inl by_)), (b6, .inl (kb6, 24, .inl se))] sz) [(b0, .inr (1, [.ref b1, .ref b2, .int (nI ltk), .int (nI lgv), .int lhc, .int lew, .int lsl, .int lsh, .ref b3, .ref b4, .ref b5, .ref b6])), (b1, .inl (kb1, 24, .inl pr)), (b2, .inl (kb2, 24, .inl lr)), (b3, .inl (kb3, 1525, .inl tb')), (b4, .inl (kb4, 25, .inl hi')), (b5, .inl (kb5, 24, .inl by_')), (b6, .inl (kb6, 24, .inl se'))]) (va_A [(b0, .inr (1, [.ref b1, .ref b2, .int (nI ltk), .int (nI lgv), .int lhc, .int lew, .int lsl, .int lsh, .ref b3, .ref b4, .ref b5, .ref b6])), (b1, .inl (kb1, 24, .inl pr)), (b2, .inl (kb2, 24, .inl lr)), (b3, .inl (kb3, 1525, .inl tb)), (b4, .inl (kb4, 25, .inl hi)), (b5, .inl (kb5, 24, .inl by_)), (b6, .inl (kb6, 24, .inl se))] sz)) 0 0 (va_A [(b0, .inr (1, [.ref b1, .ref b2, .int (nI ltk), .int (nI lgv), .int lhc, .int lew, .int lsl, .int lsh, .ref b3, .ref b4, .ref b5, .ref b6])), (b1, .inl (kb1, 24, .inl pr)), (b2, .inl (kb2, 24, .inl lr)), (b3, .inl (kb3, 1525, .inl tb)), (b4, .inl (kb4, 25, .inl hi)), (b5, .inl (kb5, 24, .inl by_)), (b6, .inl (kb6, 24, .inl se))] sz) := by
  refine Met.ofW (cc := cX1_solveHour) (maxL := 5) (ret := none) (by decide) rfl ?_
  intro p e s m args below meth c s₁ B hml hv
  obtain ⟨rfl, hsz, hP, hK, hD0⟩ := hv
  have hx := B.exec
  have hb := B.bytes
  have hr := B.returns
  have hts := atoms_spec (ws := wsX1_solveHour) B.pre
  have hown : s.vm.findClass RX1 = some m.cls := findClass_of_methodNamed B.named
  have hlocks := B.notSynchronized
  have inX1 : ∀ w ∈ wsX10, w ∈ wsX1_solveHour := fun _ h => List.mem_cons_of_mem _ (List.mem_append_right _ h)
  subst hsz
  have hD := hD0.self (sz := s.heap.size)
  generalize hAe : va_A [(b0, .inr (1, [.ref b1, .ref b2, .int (nI ltk), .int (nI lgv), .int lhc, .int lew, .int lsl, .int lsh, .ref b3, .ref b4, .ref b5, .ref b6])), (b1, .inl (kb1, 24, .inl pr)), (b2, .inl (kb2, 24, .inl lr)), (b3, .inl (kb3, 1525, .inl tb)), (b4, .inl (kb4, 25, .inl hi)), (b5, .inl (kb5, 24, .inl by_)), (b6, .inl (kb6, 24, .inl se))] s.heap.size = A at hD ⊢
  have hA : ∀ q : Nat, s.heap.size ≤ q → A q := fun q h => by rw [← hAe]; exact Or.inr h
  have hS : va_S A s.heap s.heap [] := va_S.rf
  have hl := lv_entry ([.ref b0, .int (nI h)]) (n := 5) (Nat.le_of_ble_eq_true rfl)
  rw [lg_entry_eq]
  generalize (lg_sl ([.ref b0, .int (nI h)]) ++ List.replicate (5 - (lg_sl ([.ref b0, .int (nI h)])).length) Slot.unset).toArray = ls at hl ⊢
  generalize hQe : MQ below _ _ s 0 0 _ = Q
  generalize ([.ref b0, .int (nI h)] : List Value).toArray = args at hts hQe ⊢
  have hl : lv_has ls 5 [(0, .ref b0), (1, .int (nI h))] := hl
  refine lv_aload_n hx hb dX1_solveHour_0 rfl (lv_at hl 0 rfl) ?_
  refine va_get (D := (dC, dI)) (ci := 1) (v := .ref b2) (C := RX1) (T := TX1) (N := 12) hx hb hts inX1 hown hK hP 0 rfl rfl 1 (by decide) (hts (.fieldLink RX1 15 "StoreSlopes$Slopes" "rooms" "[I") (List.mem_of_getElem? (i := 1) rfl)) (fun _ h9 => h9) rfl dX1_solveHour_1 ?_
  refine lv_iload_n hx hb dX1_solveHour_4 rfl (lv_at hl 1 rfl) ?_
  refine va_iald hx hb hK hP 2 1 rfl rfl (vp_in_nI (show h < 24 by omega) (by omega)) dX1_solveHour_5 ?_
  obtain ⟨j_1, hj_1, ej_1⟩ := bdA_get (n := 60) (N := 24) (f := lr) (by assumption) (show h < 24 by omega) (by omega)
  refine tp_as ej_1 ?_
  refine lv_aload_n hx hb dX1_solveHour_6 rfl (lv_at hl 0 rfl) ?_
  refine va_get (D := (dC, dI)) (ci := 1) (v := .ref b4) (C := RX1) (T := TX1) (N := 12) hx hb hts inX1 hown hK hP 0 rfl rfl 9 (by decide) (hts (.fieldLink RX1 21 "StoreSlopes$Slopes" "highest" "[I") (List.mem_of_getElem? (i := 2) rfl)) (fun _ h9 => h9) rfl dX1_solveHour_7 ?_
  refine lv_iload_n hx hb dX1_solveHour_10 rfl (lv_at hl 1 rfl) ?_
  refine lv_iconst (v := nI 1) hx hb dX1_solveHour_11 (by decide) ?_
  refine lv_iadd hx hb dX1_solveHour_12 ?_
  refine tp_as (nI_add h 1) ?_
  refine va_iald hx hb hK hP 4 3 rfl rfl (vp_in_nI (show h + 1 < 25 by omega) (by omega)) dX1_solveHour_13 ?_
  obtain ⟨j_2, hj_2, ej_2⟩ := bdA_get (n := 60) (N := 25) (f := hi) (by assumption) (show h + 1 < 25 by omega) (by omega)
  refine tp_as ej_2 ?_
  refine va_mmin hx hb (hml.trans hl.1.symm) (own := RX1) hown (hts (.methodLink RX1 61 Lib.Math.min.name) (List.mem_of_getElem? (i := 3) rfl)) (hts (.static Lib.Math.min.name) (List.mem_of_getElem? (i := 4) rfl)) (hts (.initialized "java/lang/Math") (List.mem_of_getElem? (i := 5) rfl)) (hts (.code Lib.Math.min.name Lib.Math.min.code 2 (some .int)) (List.mem_of_getElem? (i := 6) rfl)) (Nat.le_of_ble_eq_true rfl) (Nat.le_of_ble_eq_true rfl) (Nat.le_of_ble_eq_true rfl) (Nat.le_of_ble_eq_true rfl) dX1_solveHour_14 ?_
  refine tp_as (mm_min (a := j_1) (b := j_2) (by omega) (by omega)) ?_
  refine lv_istore_n (lv' := [(2, .int (nI (min j_1 j_2))), (0, .ref b0), (1, .int (nI h))]) hx hb dX1_solveHour_17 rfl hl (by decide) rfl (fun ls hl => ?_)
  refine lv_aload_n hx hb dX1_solveHour_18 rfl (lv_at hl 1 rfl) ?_
  refine va_get (D := (dC, dI)) (ci := 1) (v := .ref b5) (C := RX1) (T := TX1) (N := 12) hx hb hts inX1 hown hK hP 0 rfl rfl 10 (by decide) (hts (.fieldLink RX1 24 "StoreSlopes$Slopes" "buyTo" "[I") (List.mem_of_getElem? (i := 7) rfl)) (fun _ h9 => h9) rfl dX1_solveHour_19 ?_
  refine lv_iload_n hx hb dX1_solveHour_22 rfl (lv_at hl 2 rfl) ?_
  refine lv_aload_n hx hb dX1_solveHour_23 rfl (lv_at hl 1 rfl) ?_
  refine lv_iload_n hx hb dX1_solveHour_24 rfl (lv_at hl 2 rfl) ?_
  refine lv_iconst (v := nI 1) hx hb dX1_solveHour_25 (by decide) ?_
  refine lv_iadd hx hb dX1_solveHour_26 ?_
  refine tp_as (nI_add h 1) ?_
  refine lv_iconst (v := nI 0) hx hb dX1_solveHour_27 (by decide) ?_
  refine lv_iload_n hx hb dX1_solveHour_28 rfl (lv_at hl 0 rfl) ?_
  refine lv_aload_n hx hb dX1_solveHour_29 rfl (lv_at hl 1 rfl) ?_
  refine va_get (D := (dC, dI)) (ci := 1) (v := .ref b1) (C := RX1) (T := TX1) (N := 12) hx hb hts inX1 hown hK hP 0 rfl rfl 0 (by decide) (hts (.fieldLink RX1 9 "StoreSlopes$Slopes" "prices" "[I") (List.mem_of_getElem? (i := 8) rfl)) (fun _ h9 => h9) rfl dX1_solveHour_30 ?_
  refine lv_iload_n hx hb dX1_solveHour_33 rfl (lv_at hl 2 rfl) ?_
  refine va_iald hx hb hK hP 1 0 rfl rfl (vp_in_nI (show h < 24 by omega) (by omega)) dX1_solveHour_34 ?_
  refine tp_any (fun y_3 => ?_)
  refine lv_aload_n hx hb dX1_solveHour_35 rfl (lv_at hl 1 rfl) ?_
  refine va_get (D := (dC, dI)) (ci := 1) (v := .int lhc) (C := RX1) (T := TX1) (N := 12) hx hb hts inX1 hown hK hP 0 rfl rfl 4 (by decide) (hts (.fieldLink RX1 44 "StoreSlopes$Slopes" "holdCost" "I") (List.mem_of_getElem? (i := 9) rfl)) (fun _ h9 => h9) rfl dX1_solveHour_36 ?_
  refine lv_iadd hx hb dX1_solveHour_39 ?_
  refine tp_any (fun y_4 => ?_)
  have hPc := hP.sub (ws' := [(b0, .inr (1, [.ref b1, .ref b2, .int (nI ltk), .int (nI lgv), .int lhc, .int lew, .int lsl, .int lsh, .ref b3, .ref b4, .ref b5, .ref b6])), (b1, .inl (kb1, 24, .inl pr)), (b2, .inl (kb2, 24, .inl lr)), (b3, .inl (kb3, 1525, .inl tb)), (b4, .inl (kb4, 25, .inl hi)), (b5, .inl (kb5, 24, .inl by_)), (b6, .inl (kb6, 24, .inl se))]) [0, 1, 2, 3, 4, 5, 6] rfl
  have hKc := hK.sub (tys' := [(kb1, .int), (kb2, .int), (kb3, .int), (kb4, .int), (kb5, .int), (kb6, .int)]) [0, 1, 2, 3, 4, 5] rfl
  refine va_calli (va_runV (As := [.int (nI (h + 1)), .int (nI 0), .int (nI (min j_1 j_2)), .int y_4]) (rest := [.int (nI h), .ref b5]) ⟨hx, hb, hml, hown, hts⟩ (c_X1_leastNotAbove l dC dI b0 b1 b2 b3 b4 b5 b6 kb1 kb2 kb3 kb4 kb5 kb6 ltk lgv lhc lew lsl lsh pr lr tb hi by_ se (h + 1) 0 (min j_1 j_2) y_4 (by first | assumption | omega) (by first | assumption | omega) (by first | assumption | omega) (by first | assumption | omega) (by first | assumption | omega) (by first | assumption | omega) (by first | assumption | omega) (by first | assumption | omega) (by first | assumption | omega)) (cwV 4 hts gX1_solveHour_X1_leastNotAbove rfl rfl rfl (by decide +kernel) ⟨Nat.le_of_ble_eq_true rfl, Nat.le_of_ble_eq_true rfl⟩) ⟨fun a U g mk q => by obtain ⟨q0, qP, qK⟩ := q; exact ⟨q0, qP, va_K.moved (u := U) (U := U.calling g mk a) (Vm.Alike.refl U.vm) qK⟩, va_recv hKc hPc (ci := 1) (q0 := 0) rfl rfl, fun U hU hW => ⟨rfl, by rw [hU]; exact hPc, va_K.moved hW.alike hKc⟩⟩ rfl rfl hl.1 rfl (lv_room (Nat.le_of_ble_eq_true rfl)) dX1_solveHour_40 ⟨Nat.le_of_ble_eq_true rfl, Nat.le_of_ble_eq_true rfl⟩) hS (fun q _ h => h.elim) (fun q h => h.elim) (fun r_5 u t H1 locs ht hvm hw hB hz1 hk1 hS => ?_)
  refine W.widen (k := 0) (n := 0) (Nat.le_of_ble_eq_true rfl) (Nat.le_of_ble_eq_true rfl) ?_
  have hP := hP.kept (H1 := H1) (fun k q hk => hk1 q.1 (hP k q hk).lt (fun h => h))
  clear hz1 hk1 hB ht hvm t
  generalize H1 = H at hP hS ⊢
  have hP : va_P (dC, dI) vwCl [(b0, .inr (1, [.ref b1, .ref b2, .int (nI ltk), .int (nI lgv), .int lhc, .int lew, .int lsl, .int lsh, .ref b3, .ref b4, .ref b5, .ref b6])), (b1, .inl (kb1, 24, .inl pr)), (b2, .inl (kb2, 24, .inl lr)), (b3, .inl (kb3, 1525, .inl tb)), (b4, .inl (kb4, 25, .inl hi)), (b5, .inl (kb5, 24, .inl by_)), (b6, .inl (kb6, 24, .inl se))] H := hP
  obtain ⟨j_6, hj_6, rfl⟩ := hw
  refine va_iast hx hb hK hP hD hS 5 4 rfl rfl (vp_in_nI (show h < 24 by omega) (by omega)) dX1_solveHour_43 (fun H locs hP hD hS => ?_)
  have hP : va_P (dC, dI) vwCl [(b0, .inr (1, [.ref b1, .ref b2, .int (nI ltk), .int (nI lgv), .int lhc, .int lew, .int lsl, .int lsh, .ref b3, .ref b4, .ref b5, .ref b6])), (b1, .inl (kb1, 24, .inl pr)), (b2, .inl (kb2, 24, .inl lr)), (b3, .inl (kb3, 1525, .inl tb)), (b4, .inl (kb4, 25, .inl hi)), (b5, .inl (kb5, 24, .inl (upd by_ (nI h).toNatClampNeg (nI j_6)))), (b6, .inl (kb6, 24, .inl se))] H := hP
  have hD : va_D A [(b0, .inr (1, [.ref b1, .ref b2, .int (nI ltk), .int (nI lgv), .int lhc, .int lew, .int lsl, .int lsh, .ref b3, .ref b4, .ref b5, .ref b6])), (b1, .inl (kb1, 24, .inl pr)), (b2, .inl (kb2, 24, .inl lr)), (b3, .inl (kb3, 1525, .inl tb)), (b4, .inl (kb4, 25, .inl hi)), (b5, .inl (kb5, 24, .inl (upd by_ (nI h).toNatClampNeg (nI j_6)))), (b6, .inl (kb6, 24, .inl se))] := hD
  generalize ef_7 : upd by_ (nI h).toNatClampNeg (nI j_6) = f_7 at hP hD
  have bf_7 : bdA 60 24 f_7 := bdA_upd (by assumption) ef_7 (by omega) (by omega)
  clear ef_7
  refine lv_aload_n hx hb dX1_solveHour_44 rfl (lv_at hl 1 rfl) ?_
  refine va_get (D := (dC, dI)) (ci := 1) (v := .ref b6) (C := RX1) (T := TX1) (N := 12) hx hb hts inX1 hown hK hP 0 rfl rfl 11 (by decide) (hts (.fieldLink RX1 27 "StoreSlopes$Slopes" "sellTo" "[I") (List.mem_of_getElem? (i := 10) rfl)) (fun _ h9 => h9) rfl dX1_solveHour_45 ?_
  refine lv_iload_n hx hb dX1_solveHour_48 rfl (lv_at hl 2 rfl) ?_
  refine lv_aload_n hx hb dX1_solveHour_49 rfl (lv_at hl 1 rfl) ?_
  refine lv_iload_n hx hb dX1_solveHour_50 rfl (lv_at hl 2 rfl) ?_
  refine lv_iconst (v := nI 1) hx hb dX1_solveHour_51 (by decide) ?_
  refine lv_iadd hx hb dX1_solveHour_52 ?_
  refine tp_as (nI_add h 1) ?_
  refine lv_aload_n hx hb dX1_solveHour_53 rfl (lv_at hl 1 rfl) ?_
  refine va_get (D := (dC, dI)) (ci := 1) (v := .ref b5) (C := RX1) (T := TX1) (N := 12) hx hb hts inX1 hown hK hP 0 rfl rfl 10 (by decide) (hts (.fieldLink RX1 24 "StoreSlopes$Slopes" "buyTo" "[I") (List.mem_of_getElem? (i := 7) rfl)) (fun _ h9 => h9) rfl dX1_solveHour_54 ?_
  refine lv_iload_n hx hb dX1_solveHour_57 rfl (lv_at hl 2 rfl) ?_
  refine va_iald hx hb hK hP 5 4 rfl rfl (vp_in_nI (show h < 24 by omega) (by omega)) dX1_solveHour_58 ?_
  obtain ⟨j_8, hj_8, ej_8⟩ := bdA_get (n := 60) (N := 24) (f := f_7) (by assumption) (show h < 24 by omega) (by omega)
  refine tp_as ej_8 ?_
  refine lv_iload_n hx hb dX1_solveHour_59 rfl (lv_at hl 0 rfl) ?_
  refine lv_aload_n hx hb dX1_solveHour_60 rfl (lv_at hl 1 rfl) ?_
  refine va_get (D := (dC, dI)) (ci := 1) (v := .ref b1) (C := RX1) (T := TX1) (N := 12) hx hb hts inX1 hown hK hP 0 rfl rfl 0 (by decide) (hts (.fieldLink RX1 9 "StoreSlopes$Slopes" "prices" "[I") (List.mem_of_getElem? (i := 8) rfl)) (fun _ h9 => h9) rfl dX1_solveHour_61 ?_
  refine lv_iload_n hx hb dX1_solveHour_64 rfl (lv_at hl 2 rfl) ?_
  refine va_iald hx hb hK hP 1 0 rfl rfl (vp_in_nI (show h < 24 by omega) (by omega)) dX1_solveHour_65 ?_
  refine tp_any (fun y_9 => ?_)
  refine lv_aload_n hx hb dX1_solveHour_66 rfl (lv_at hl 1 rfl) ?_
  refine va_get (D := (dC, dI)) (ci := 1) (v := .int lsl) (C := RX1) (T := TX1) (N := 12) hx hb hts inX1 hown hK hP 0 rfl rfl 6 (by decide) (hts (.fieldLink RX1 52 "StoreSlopes$Slopes" "sellLoss" "I") (List.mem_of_getElem? (i := 11) rfl)) (fun _ h9 => h9) rfl dX1_solveHour_67 ?_
  refine lv_isub hx hb dX1_solveHour_70 ?_
  refine tp_any (fun y_10 => ?_)
  refine lv_aload_n hx hb dX1_solveHour_71 rfl (lv_at hl 1 rfl) ?_
  refine va_get (D := (dC, dI)) (ci := 1) (v := .int lhc) (C := RX1) (T := TX1) (N := 12) hx hb hts inX1 hown hK hP 0 rfl rfl 4 (by decide) (hts (.fieldLink RX1 44 "StoreSlopes$Slopes" "holdCost" "I") (List.mem_of_getElem? (i := 9) rfl)) (fun _ h9 => h9) rfl dX1_solveHour_72 ?_
  refine lv_iadd hx hb dX1_solveHour_75 ?_
  refine tp_any (fun y_11 => ?_)
  have hPc := hP.sub (ws' := [(b0, .inr (1, [.ref b1, .ref b2, .int (nI ltk), .int (nI lgv), .int lhc, .int lew, .int lsl, .int lsh, .ref b3, .ref b4, .ref b5, .ref b6])), (b1, .inl (kb1, 24, .inl pr)), (b2, .inl (kb2, 24, .inl lr)), (b3, .inl (kb3, 1525, .inl tb)), (b4, .inl (kb4, 25, .inl hi)), (b5, .inl (kb5, 24, .inl f_7)), (b6, .inl (kb6, 24, .inl se))]) [0, 1, 2, 3, 4, 5, 6] rfl
  have hKc := hK.sub (tys' := [(kb1, .int), (kb2, .int), (kb3, .int), (kb4, .int), (kb5, .int), (kb6, .int)]) [0, 1, 2, 3, 4, 5] rfl
  refine va_calli (va_runV (As := [.int (nI (h + 1)), .int (nI j_8), .int (nI (min j_1 j_2)), .int y_11]) (rest := [.int (nI h), .ref b6]) ⟨hx, hb, hml, hown, hts⟩ (c_X1_leastNotAbove l dC dI b0 b1 b2 b3 b4 b5 b6 kb1 kb2 kb3 kb4 kb5 kb6 ltk lgv lhc lew lsl lsh pr lr tb hi f_7 se (h + 1) j_8 (min j_1 j_2) y_11 (by first | assumption | omega) (by first | assumption | omega) (by first | assumption | omega) (by first | assumption | omega) (by first | assumption | omega) (by first | assumption | omega) (by first | assumption | omega) (by first | assumption | omega) (by first | assumption | omega)) (cwV 4 hts gX1_solveHour_X1_leastNotAbove rfl rfl rfl (by decide +kernel) ⟨Nat.le_of_ble_eq_true rfl, Nat.le_of_ble_eq_true rfl⟩) ⟨fun a U g mk q => by obtain ⟨q0, qP, qK⟩ := q; exact ⟨q0, qP, va_K.moved (u := U) (U := U.calling g mk a) (Vm.Alike.refl U.vm) qK⟩, va_recv hKc hPc (ci := 1) (q0 := 0) rfl rfl, fun U hU hW => ⟨rfl, by rw [hU]; exact hPc, va_K.moved hW.alike hKc⟩⟩ rfl rfl hl.1 rfl (lv_room (Nat.le_of_ble_eq_true rfl)) dX1_solveHour_76 ⟨Nat.le_of_ble_eq_true rfl, Nat.le_of_ble_eq_true rfl⟩) hS (fun q _ h => h.elim) (fun q h => h.elim) (fun r_12 u t H1 locs ht hvm hw hB hz1 hk1 hS => ?_)
  refine W.widen (k := 0) (n := 0) (Nat.le_of_ble_eq_true rfl) (Nat.le_of_ble_eq_true rfl) ?_
  have hP := hP.kept (H1 := H1) (fun k q hk => hk1 q.1 (hP k q hk).lt (fun h => h))
  clear hz1 hk1 hB ht hvm t
  generalize H1 = H at hP hS ⊢
  have hP : va_P (dC, dI) vwCl [(b0, .inr (1, [.ref b1, .ref b2, .int (nI ltk), .int (nI lgv), .int lhc, .int lew, .int lsl, .int lsh, .ref b3, .ref b4, .ref b5, .ref b6])), (b1, .inl (kb1, 24, .inl pr)), (b2, .inl (kb2, 24, .inl lr)), (b3, .inl (kb3, 1525, .inl tb)), (b4, .inl (kb4, 25, .inl hi)), (b5, .inl (kb5, 24, .inl f_7)), (b6, .inl (kb6, 24, .inl se))] H := hP
  obtain ⟨j_13, hj_13, rfl⟩ := hw
  refine va_iast hx hb hK hP hD hS 6 5 rfl rfl (vp_in_nI (show h < 24 by omega) (by omega)) dX1_solveHour_79 (fun H locs hP hD hS => ?_)
  have hP : va_P (dC, dI) vwCl [(b0, .inr (1, [.ref b1, .ref b2, .int (nI ltk), .int (nI lgv), .int lhc, .int lew, .int lsl, .int lsh, .ref b3, .ref b4, .ref b5, .ref b6])), (b1, .inl (kb1, 24, .inl pr)), (b2, .inl (kb2, 24, .inl lr)), (b3, .inl (kb3, 1525, .inl tb)), (b4, .inl (kb4, 25, .inl hi)), (b5, .inl (kb5, 24, .inl f_7)), (b6, .inl (kb6, 24, .inl (upd se (nI h).toNatClampNeg (nI j_13))))] H := hP
  have hD : va_D A [(b0, .inr (1, [.ref b1, .ref b2, .int (nI ltk), .int (nI lgv), .int lhc, .int lew, .int lsl, .int lsh, .ref b3, .ref b4, .ref b5, .ref b6])), (b1, .inl (kb1, 24, .inl pr)), (b2, .inl (kb2, 24, .inl lr)), (b3, .inl (kb3, 1525, .inl tb)), (b4, .inl (kb4, 25, .inl hi)), (b5, .inl (kb5, 24, .inl f_7)), (b6, .inl (kb6, 24, .inl (upd se (nI h).toNatClampNeg (nI j_13))))] := hD
  generalize ef_14 : upd se (nI h).toNatClampNeg (nI j_13) = f_14 at hP hD
  have bf_14 : bdA 60 24 f_14 := bdA_upd (by assumption) ef_14 (by omega) (by omega)
  clear ef_14
  refine lv_aload_n hx hb dX1_solveHour_80 rfl (lv_at hl 1 rfl) ?_
  refine va_get (D := (dC, dI)) (ci := 1) (v := .ref b4) (C := RX1) (T := TX1) (N := 12) hx hb hts inX1 hown hK hP 0 rfl rfl 9 (by decide) (hts (.fieldLink RX1 21 "StoreSlopes$Slopes" "highest" "[I") (List.mem_of_getElem? (i := 2) rfl)) (fun _ h9 => h9) rfl dX1_solveHour_81 ?_
  refine lv_iload_n hx hb dX1_solveHour_84 rfl (lv_at hl 2 rfl) ?_
  refine lv_bipush (v := nI 60) hx hb dX1_solveHour_85 (by decide) ?_
  refine lv_iload_n hx hb dX1_solveHour_87 rfl (lv_at hl 0 rfl) ?_
  refine lv_aload_n hx hb dX1_solveHour_88 rfl (lv_at hl 1 rfl) ?_
  refine lv_iload_n hx hb dX1_solveHour_89 rfl (lv_at hl 2 rfl) ?_
  have hPc := hP.sub (ws' := [(b0, .inr (1, [.ref b1, .ref b2, .int (nI ltk), .int (nI lgv), .int lhc, .int lew, .int lsl, .int lsh, .ref b3, .ref b4, .ref b5, .ref b6])), (b1, .inl (kb1, 24, .inl pr)), (b2, .inl (kb2, 24, .inl lr)), (b3, .inl (kb3, 1525, .inl tb)), (b4, .inl (kb4, 25, .inl hi)), (b5, .inl (kb5, 24, .inl f_7)), (b6, .inl (kb6, 24, .inl f_14))]) [0, 1, 2, 3, 4, 5, 6] rfl
  have hKc := hK.sub (tys' := [(kb1, .int), (kb2, .int), (kb3, .int), (kb4, .int), (kb5, .int), (kb6, .int)]) [0, 1, 2, 3, 4, 5] rfl
  refine va_calli (va_runV (As := [.int (nI h)]) (rest := [.int (nI (min j_1 j_2)), .int (nI 60), .int (nI h), .ref b4]) ⟨hx, hb, hml, hown, hts⟩ (c_X1_givesIn l dC dI b0 b1 b2 b3 b4 b5 b6 kb1 kb2 kb3 kb4 kb5 kb6 ltk lgv lhc lew lsl lsh pr lr tb hi f_7 f_14 (nI h) (by first | assumption | omega) (by first | assumption | omega) (by first | assumption | omega) (by first | assumption | omega) (by first | assumption | omega) (by first | assumption | omega) ) (cwV 1 hts gX1_solveHour_X1_givesIn rfl rfl rfl (by decide +kernel) ⟨Nat.le_of_ble_eq_true rfl, Nat.le_of_ble_eq_true rfl⟩) ⟨fun a U g mk q => by obtain ⟨q0, qP, qK⟩ := q; exact ⟨q0, qP, va_K.moved (u := U) (U := U.calling g mk a) (Vm.Alike.refl U.vm) qK⟩, va_recv hKc hPc (ci := 1) (q0 := 0) rfl rfl, fun U hU hW => ⟨rfl, by rw [hU]; exact hPc, va_K.moved hW.alike hKc⟩⟩ rfl rfl hl.1 rfl (lv_room (Nat.le_of_ble_eq_true rfl)) dX1_solveHour_90 ⟨Nat.le_of_ble_eq_true rfl, Nat.le_of_ble_eq_true rfl⟩) hS (fun q _ h => h.elim) (fun q h => h.elim) (fun r_15 u t H1 locs ht hvm hw hB hz1 hk1 hS => ?_)
  refine W.widen (k := 0) (n := 0) (Nat.le_of_ble_eq_true rfl) (Nat.le_of_ble_eq_true rfl) ?_
  have hP := hP.kept (H1 := H1) (fun k q hk => hk1 q.1 (hP k q hk).lt (fun h => h))
  clear hz1 hk1 hB ht hvm t
  generalize H1 = H at hP hS ⊢
  have hP : va_P (dC, dI) vwCl [(b0, .inr (1, [.ref b1, .ref b2, .int (nI ltk), .int (nI lgv), .int lhc, .int lew, .int lsl, .int lsh, .ref b3, .ref b4, .ref b5, .ref b6])), (b1, .inl (kb1, 24, .inl pr)), (b2, .inl (kb2, 24, .inl lr)), (b3, .inl (kb3, 1525, .inl tb)), (b4, .inl (kb4, 25, .inl hi)), (b5, .inl (kb5, 24, .inl f_7)), (b6, .inl (kb6, 24, .inl f_14))] H := hP
  obtain ⟨j_16, hj_16, rfl⟩ := hw
  refine lv_iadd hx hb dX1_solveHour_93 ?_
  refine tp_as (nI_add (min j_1 j_2) j_16) ?_
  refine va_mmin hx hb (hml.trans hl.1.symm) (own := RX1) hown (hts (.methodLink RX1 61 Lib.Math.min.name) (List.mem_of_getElem? (i := 3) rfl)) (hts (.static Lib.Math.min.name) (List.mem_of_getElem? (i := 4) rfl)) (hts (.initialized "java/lang/Math") (List.mem_of_getElem? (i := 5) rfl)) (hts (.code Lib.Math.min.name Lib.Math.min.code 2 (some .int)) (List.mem_of_getElem? (i := 6) rfl)) (Nat.le_of_ble_eq_true rfl) (Nat.le_of_ble_eq_true rfl) (Nat.le_of_ble_eq_true rfl) (Nat.le_of_ble_eq_true rfl) dX1_solveHour_94 ?_
  refine tp_as (mm_min (a := 60) (b := min j_1 j_2 + j_16) (by omega) (by omega)) ?_
  refine va_iast hx hb hK hP hD hS 4 3 rfl rfl (vp_in_nI (show h < 25 by omega) (by omega)) dX1_solveHour_97 (fun H locs hP hD hS => ?_)
  have hP : va_P (dC, dI) vwCl [(b0, .inr (1, [.ref b1, .ref b2, .int (nI ltk), .int (nI lgv), .int lhc, .int lew, .int lsl, .int lsh, .ref b3, .ref b4, .ref b5, .ref b6])), (b1, .inl (kb1, 24, .inl pr)), (b2, .inl (kb2, 24, .inl lr)), (b3, .inl (kb3, 1525, .inl tb)), (b4, .inl (kb4, 25, .inl (upd hi (nI h).toNatClampNeg (nI (min 60 (min j_1 j_2 + j_16)))))), (b5, .inl (kb5, 24, .inl f_7)), (b6, .inl (kb6, 24, .inl f_14))] H := hP
  have hD : va_D A [(b0, .inr (1, [.ref b1, .ref b2, .int (nI ltk), .int (nI lgv), .int lhc, .int lew, .int lsl, .int lsh, .ref b3, .ref b4, .ref b5, .ref b6])), (b1, .inl (kb1, 24, .inl pr)), (b2, .inl (kb2, 24, .inl lr)), (b3, .inl (kb3, 1525, .inl tb)), (b4, .inl (kb4, 25, .inl (upd hi (nI h).toNatClampNeg (nI (min 60 (min j_1 j_2 + j_16)))))), (b5, .inl (kb5, 24, .inl f_7)), (b6, .inl (kb6, 24, .inl f_14))] := hD
  generalize ef_17 : upd hi (nI h).toNatClampNeg (nI (min 60 (min j_1 j_2 + j_16))) = f_17 at hP hD
  have bf_17 : bdA 60 25 f_17 := bdA_upd (by assumption) ef_17 (by omega) (by omega)
  clear ef_17
  refine lv_iconst (v := nI 0) hx hb dX1_solveHour_98 (by decide) ?_
  refine lv_istore_n (lv' := [(3, .int (nI 0)), (2, .int (nI (min j_1 j_2))), (0, .ref b0), (1, .int (nI h))]) hx hb dX1_solveHour_99 rfl hl (by decide) rfl (fun ls hl => ?_)
  have L100 : ∀ (n : Nat) (x : Nat) (tbv : Nat → Int32) (H : Heap) (locs : List Loc) (ls : Array Slot), x ≤ 61 → 61 - x < n → va_P (dC, dI) vwCl [(b0, .inr (1, [.ref b1, .ref b2, .int (nI ltk), .int (nI lgv), .int lhc, .int lew, .int lsl, .int lsh, .ref b3, .ref b4, .ref b5, .ref b6])), (b1, .inl (kb1, 24, .inl pr)), (b2, .inl (kb2, 24, .inl lr)), (b3, .inl (kb3, 1525, .inl tbv)), (b4, .inl (kb4, 25, .inl f_17)), (b5, .inl (kb5, 24, .inl f_7)), (b6, .inl (kb6, 24, .inl f_14))] H → va_D A [(b0, .inr (1, [.ref b1, .ref b2, .int (nI ltk), .int (nI lgv), .int lhc, .int lew, .int lsl, .int lsh, .ref b3, .ref b4, .ref b5, .ref b6])), (b1, .inl (kb1, 24, .inl pr)), (b2, .inl (kb2, 24, .inl lr)), (b3, .inl (kb3, 1525, .inl tbv)), (b4, .inl (kb4, 25, .inl f_17)), (b5, .inl (kb5, 24, .inl f_7)), (b6, .inl (kb6, 24, .inl f_14))] → va_S A s.heap H locs → lv_has ls 5 [(0, .ref b0), (1, .int (nI h)), (3, .int (nI x))] → W p l e (headSpec wsX1_solveHour { frames := 3, cells := 0, slots := 0, locals := 69 }).room s m args below meth c H locs 0 0 Q (F0 m 100 ls []) := by
    intro n
    induction n with
    | zero => intro x tbv H locs ls hL100_0 hn; exact absurd hn (Nat.not_lt_zero _)
    | succ n ih =>
      intro x tbv H locs ls hL100_0 hn hP hD hS hl
      refine lv_iload_n hx hb dX1_solveHour_100 rfl (lv_at hl 2 rfl) ?_
      refine lv_aload_n hx hb dX1_solveHour_101 rfl (lv_at hl 0 rfl) ?_
      refine va_get (D := (dC, dI)) (ci := 1) (v := .ref b4) (C := RX1) (T := TX1) (N := 12) hx hb hts inX1 hown hK hP 0 rfl rfl 9 (by decide) (hts (.fieldLink RX1 21 "StoreSlopes$Slopes" "highest" "[I") (List.mem_of_getElem? (i := 2) rfl)) (fun _ h9 => h9) rfl dX1_solveHour_102 ?_
      refine lv_iload_n hx hb dX1_solveHour_105 rfl (lv_at hl 1 rfl) ?_
      refine va_iald hx hb hK hP 4 3 rfl rfl (vp_in_nI (show h < 25 by omega) (by omega)) dX1_solveHour_106 ?_
      obtain ⟨j_18, hj_18, ej_18⟩ := bdA_get (n := 60) (N := 25) (f := f_17) (by assumption) (show h < 25 by omega) (by omega)
      refine tp_as ej_18 ?_
      refine lv_icmp_gt (tgt := 153) hx hb dX1_solveHour_107 (by decide) (fun c_107 => ?_) (fun c_107 => ?_)
      · have c_107 := (nI_ltI (by omega : j_18 < 2 ^ 31) (by omega : x < 2 ^ 31)).mp c_107
        subst hQe
        have hP9 := hP.sub (ws' := [(b0, .inr (1, [.ref b1, .ref b2, .int (nI ltk), .int (nI lgv), .int lhc, .int lew, .int lsl, .int lsh, .ref b3, .ref b4, .ref b5, .ref b6])), (b1, .inl (kb1, 24, .inl pr)), (b2, .inl (kb2, 24, .inl lr)), (b3, .inl (kb3, 1525, .inl tbv)), (b4, .inl (kb4, 25, .inl f_17)), (b5, .inl (kb5, 24, .inl f_7)), (b6, .inl (kb6, 24, .inl f_14))]) [0, 1, 2, 3, 4, 5, 6] rfl
        have hD9 := hD.sub (ws' := [(b0, .inr (1, [.ref b1, .ref b2, .int (nI ltk), .int (nI lgv), .int lhc, .int lew, .int lsl, .int lsh, .ref b3, .ref b4, .ref b5, .ref b6])), (b1, .inl (kb1, 24, .inl pr)), (b2, .inl (kb2, 24, .inl lr)), (b3, .inl (kb3, 1525, .inl tbv)), (b4, .inl (kb4, 25, .inl f_17)), (b5, .inl (kb5, 24, .inl f_7)), (b6, .inl (kb6, 24, .inl f_14))]) [0, 1, 2, 3, 4, 5, 6] (by decide) rfl
        have hK9 := hK.sub (tys' := [(kb1, .int), (kb2, .int), (kb3, .int), (kb4, .int), (kb5, .int), (kb6, .int)]) [0, 1, 2, 3, 4, 5] rfl
        subst hAe
        exact W.vret hx hb hr (fun t ht hW => ⟨⟨(), rfl, trivial, tbv, f_17, f_7, f_14, (by first | assumption | omega), (by first | assumption | omega), (by first | assumption | omega), by rw [ht]; exact hP9, va_K.moved hW.alike hK9, hD9⟩, hS.F ht⟩) hS.2.2 dX1_solveHour_153
      · have c_107 := (not_congr (nI_ltI (by omega : j_18 < 2 ^ 31) (by omega : x < 2 ^ 31))).mp c_107
        refine lv_aload_n hx hb dX1_solveHour_110 rfl (lv_at hl 0 rfl) ?_
        refine lv_iload_n hx hb dX1_solveHour_111 rfl (lv_at hl 1 rfl) ?_
        refine lv_iload_n hx hb dX1_solveHour_112 rfl (lv_at hl 2 rfl) ?_
        have hPc := hP.sub (ws' := [(b0, .inr (1, [.ref b1, .ref b2, .int (nI ltk), .int (nI lgv), .int lhc, .int lew, .int lsl, .int lsh, .ref b3, .ref b4, .ref b5, .ref b6])), (b1, .inl (kb1, 24, .inl pr)), (b2, .inl (kb2, 24, .inl lr)), (b3, .inl (kb3, 1525, .inl tbv)), (b4, .inl (kb4, 25, .inl f_17)), (b5, .inl (kb5, 24, .inl f_7)), (b6, .inl (kb6, 24, .inl f_14))]) [0, 1, 2, 3, 4, 5, 6] rfl
        have hKc := hK.sub (tys' := [(kb1, .int), (kb2, .int), (kb3, .int), (kb4, .int), (kb5, .int), (kb6, .int)]) [0, 1, 2, 3, 4, 5] rfl
        refine va_calli (va_runV (As := [.int (nI h), .int (nI x)]) (rest := []) ⟨hx, hb, hml, hown, hts⟩ (c_X1_next l dC dI b0 b1 b2 b3 b4 b5 b6 kb1 kb2 kb3 kb4 kb5 kb6 ltk lgv lhc lew lsl lsh pr lr tbv f_17 f_7 f_14 h x (by first | assumption | omega) (by first | assumption | omega) (by first | assumption | omega) (by first | assumption | omega) (by first | assumption | omega) (by first | assumption | omega) (by first | assumption | omega) (by first | assumption | omega)) (cwV 2 hts gX1_solveHour_X1_next rfl rfl rfl (by decide +kernel) ⟨Nat.le_of_ble_eq_true rfl, Nat.le_of_ble_eq_true rfl⟩) ⟨fun a U g mk q => by obtain ⟨q0, qP, qK⟩ := q; exact ⟨q0, qP, va_K.moved (u := U) (U := U.calling g mk a) (Vm.Alike.refl U.vm) qK⟩, va_recv hKc hPc (ci := 1) (q0 := 0) rfl rfl, fun U hU hW => ⟨rfl, by rw [hU]; exact hPc, va_K.moved hW.alike hKc⟩⟩ rfl rfl hl.1 rfl (lv_room (Nat.le_of_ble_eq_true rfl)) dX1_solveHour_113 ⟨Nat.le_of_ble_eq_true rfl, Nat.le_of_ble_eq_true rfl⟩) hS (fun q _ h => h.elim) (fun q h => h.elim) (fun r_19 u t H1 locs ht hvm hw hB hz1 hk1 hS => ?_)
        refine W.widen (k := 0) (n := 0) (Nat.le_of_ble_eq_true rfl) (Nat.le_of_ble_eq_true rfl) ?_
        have hP := hP.kept (H1 := H1) (fun k q hk => hk1 q.1 (hP k q hk).lt (fun h => h))
        clear hz1 hk1 hB ht hvm t
        generalize H1 = H at hP hS ⊢
        have hP : va_P (dC, dI) vwCl [(b0, .inr (1, [.ref b1, .ref b2, .int (nI ltk), .int (nI lgv), .int lhc, .int lew, .int lsl, .int lsh, .ref b3, .ref b4, .ref b5, .ref b6])), (b1, .inl (kb1, 24, .inl pr)), (b2, .inl (kb2, 24, .inl lr)), (b3, .inl (kb3, 1525, .inl tbv)), (b4, .inl (kb4, 25, .inl f_17)), (b5, .inl (kb5, 24, .inl f_7)), (b6, .inl (kb6, 24, .inl f_14))] H := hP
        obtain ⟨j_20, hj_20, rfl⟩ := hw
        refine lv_istore (lv' := [(4, .int (nI j_20)), (0, .ref b0), (1, .int (nI h)), (3, .int (nI x))]) hx hb dX1_solveHour_116 hl (by decide) rfl (fun ls hl => ?_)
        refine lv_aload_n hx hb dX1_solveHour_118 rfl (lv_at hl 1 rfl) ?_
        refine va_get (D := (dC, dI)) (ci := 1) (v := .ref b3) (C := RX1) (T := TX1) (N := 12) hx hb hts inX1 hown hK hP 0 rfl rfl 8 (by decide) (hts (.fieldLink RX1 18 "StoreSlopes$Slopes" "table" "[I") (List.mem_of_getElem? (i := 12) rfl)) (fun _ h9 => h9) rfl dX1_solveHour_119 ?_
        refine lv_iload_n hx hb dX1_solveHour_122 rfl (lv_at hl 2 rfl) ?_
        refine lv_bipush (v := nI 61) hx hb dX1_solveHour_123 (by decide) ?_
        refine lv_imul hx hb dX1_solveHour_125 ?_
        refine tp_as (pk_mul h 61) ?_
        refine lv_iload_n hx hb dX1_solveHour_126 rfl (lv_at hl 3 rfl) ?_
        refine lv_iadd hx hb dX1_solveHour_127 ?_
        refine tp_as (nI_add (h * 61) x) ?_
        refine lv_aload_n hx hb dX1_solveHour_128 rfl (lv_at hl 1 rfl) ?_
        refine lv_iload_n hx hb dX1_solveHour_129 rfl (lv_at hl 2 rfl) ?_
        refine lv_iload_n hx hb dX1_solveHour_130 rfl (lv_at hl 3 rfl) ?_
        refine lv_iload hx hb dX1_solveHour_131 (lv_at hl 0 rfl) ?_
        have hPc := hP.sub (ws' := [(b0, .inr (1, [.ref b1, .ref b2, .int (nI ltk), .int (nI lgv), .int lhc, .int lew, .int lsl, .int lsh, .ref b3, .ref b4, .ref b5, .ref b6])), (b1, .inl (kb1, 24, .inl pr)), (b2, .inl (kb2, 24, .inl lr)), (b3, .inl (kb3, 1525, .inl tbv)), (b4, .inl (kb4, 25, .inl f_17)), (b5, .inl (kb5, 24, .inl f_7)), (b6, .inl (kb6, 24, .inl f_14))]) [0, 1, 2, 3, 4, 5, 6] rfl
        have hKc := hK.sub (tys' := [(kb1, .int), (kb2, .int), (kb3, .int), (kb4, .int), (kb5, .int), (kb6, .int)]) [0, 1, 2, 3, 4, 5] rfl
        refine va_calli (va_runV (As := [.int (nI h), .int (nI x), .int (nI j_20)]) (rest := [.int (nI (h * 61 + x)), .ref b3]) ⟨hx, hb, hml, hown, hts⟩ (c_X1_takings l dC dI b0 b1 b2 b3 b4 b5 b6 kb1 kb2 kb3 kb4 kb5 kb6 ltk lgv lhc lew lsl lsh pr lr tbv f_17 f_7 f_14 h (nI x) (nI j_20) (by first | assumption | omega) (by first | assumption | omega) (by first | assumption | omega) (by first | assumption | omega) (by first | assumption | omega) (by first | assumption | omega) (by first | assumption | omega)) (cwV 3 hts gX1_solveHour_X1_takings rfl rfl rfl (by decide +kernel) ⟨Nat.le_of_ble_eq_true rfl, Nat.le_of_ble_eq_true rfl⟩) ⟨fun a U g mk q => by obtain ⟨q0, qP, qK⟩ := q; exact ⟨q0, qP, va_K.moved (u := U) (U := U.calling g mk a) (Vm.Alike.refl U.vm) qK⟩, va_recv hKc hPc (ci := 1) (q0 := 0) rfl rfl, fun U hU hW => ⟨rfl, by rw [hU]; exact hPc, va_K.moved hW.alike hKc⟩⟩ rfl rfl hl.1 rfl (lv_room (Nat.le_of_ble_eq_true rfl)) dX1_solveHour_133 ⟨Nat.le_of_ble_eq_true rfl, Nat.le_of_ble_eq_true rfl⟩) hS (fun q _ h => h.elim) (fun q h => h.elim) (fun r_21 u t H1 locs ht hvm hw hB hz1 hk1 hS => ?_)
        refine W.widen (k := 0) (n := 0) (Nat.le_of_ble_eq_true rfl) (Nat.le_of_ble_eq_true rfl) ?_
        have hP := hP.kept (H1 := H1) (fun k q hk => hk1 q.1 (hP k q hk).lt (fun h => h))
        clear hz1 hk1 hB ht hvm t
        generalize H1 = H at hP hS ⊢
        have hP : va_P (dC, dI) vwCl [(b0, .inr (1, [.ref b1, .ref b2, .int (nI ltk), .int (nI lgv), .int lhc, .int lew, .int lsl, .int lsh, .ref b3, .ref b4, .ref b5, .ref b6])), (b1, .inl (kb1, 24, .inl pr)), (b2, .inl (kb2, 24, .inl lr)), (b3, .inl (kb3, 1525, .inl tbv)), (b4, .inl (kb4, 25, .inl f_17)), (b5, .inl (kb5, 24, .inl f_7)), (b6, .inl (kb6, 24, .inl f_14))] H := hP
        clear hw
        refine lv_aload_n hx hb dX1_solveHour_136 rfl (lv_at hl 1 rfl) ?_
        refine lv_iload_n hx hb dX1_solveHour_137 rfl (lv_at hl 2 rfl) ?_
        refine lv_iconst (v := nI 1) hx hb dX1_solveHour_138 (by decide) ?_
        refine lv_iadd hx hb dX1_solveHour_139 ?_
        refine tp_as (nI_add h 1) ?_
        refine lv_iload hx hb dX1_solveHour_140 (lv_at hl 0 rfl) ?_
        have hPc := hP.sub (ws' := [(b0, .inr (1, [.ref b1, .ref b2, .int (nI ltk), .int (nI lgv), .int lhc, .int lew, .int lsl, .int lsh, .ref b3, .ref b4, .ref b5, .ref b6])), (b1, .inl (kb1, 24, .inl pr)), (b2, .inl (kb2, 24, .inl lr)), (b3, .inl (kb3, 1525, .inl tbv)), (b4, .inl (kb4, 25, .inl f_17)), (b5, .inl (kb5, 24, .inl f_7)), (b6, .inl (kb6, 24, .inl f_14))]) [0, 1, 2, 3, 4, 5, 6] rfl
        have hKc := hK.sub (tys' := [(kb1, .int), (kb2, .int), (kb3, .int), (kb4, .int), (kb5, .int), (kb6, .int)]) [0, 1, 2, 3, 4, 5] rfl
        refine va_calli (va_runV (As := [.int (nI (h + 1)), .int (nI j_20)]) (rest := [.int r_21, .int (nI (h * 61 + x)), .ref b3]) ⟨hx, hb, hml, hown, hts⟩ (c_X1_most l dC dI b0 b1 b2 b3 b4 b5 b6 kb1 kb2 kb3 kb4 kb5 kb6 ltk lgv lhc lew lsl lsh pr lr tbv f_17 f_7 f_14 (h + 1) j_20 (by first | assumption | omega) (by first | assumption | omega) (by first | assumption | omega) (by first | assumption | omega) (by first | assumption | omega) (by first | assumption | omega) (by first | assumption | omega) (by first | assumption | omega)) (cwV 2 hts gX1_solveHour_X1_most rfl rfl rfl (by decide +kernel) ⟨Nat.le_of_ble_eq_true rfl, Nat.le_of_ble_eq_true rfl⟩) ⟨fun a U g mk q => by obtain ⟨q0, qP, qK⟩ := q; exact ⟨q0, qP, va_K.moved (u := U) (U := U.calling g mk a) (Vm.Alike.refl U.vm) qK⟩, va_recv hKc hPc (ci := 1) (q0 := 0) rfl rfl, fun U hU hW => ⟨rfl, by rw [hU]; exact hPc, va_K.moved hW.alike hKc⟩⟩ rfl rfl hl.1 rfl (lv_room (Nat.le_of_ble_eq_true rfl)) dX1_solveHour_142 ⟨Nat.le_of_ble_eq_true rfl, Nat.le_of_ble_eq_true rfl⟩) hS (fun q _ h => h.elim) (fun q h => h.elim) (fun r_22 u t H1 locs ht hvm hw hB hz1 hk1 hS => ?_)
        refine W.widen (k := 0) (n := 0) (Nat.le_of_ble_eq_true rfl) (Nat.le_of_ble_eq_true rfl) ?_
        have hP := hP.kept (H1 := H1) (fun k q hk => hk1 q.1 (hP k q hk).lt (fun h => h))
        clear hz1 hk1 hB ht hvm t
        generalize H1 = H at hP hS ⊢
        have hP : va_P (dC, dI) vwCl [(b0, .inr (1, [.ref b1, .ref b2, .int (nI ltk), .int (nI lgv), .int lhc, .int lew, .int lsl, .int lsh, .ref b3, .ref b4, .ref b5, .ref b6])), (b1, .inl (kb1, 24, .inl pr)), (b2, .inl (kb2, 24, .inl lr)), (b3, .inl (kb3, 1525, .inl tbv)), (b4, .inl (kb4, 25, .inl f_17)), (b5, .inl (kb5, 24, .inl f_7)), (b6, .inl (kb6, 24, .inl f_14))] H := hP
        clear hw
        refine lv_iadd hx hb dX1_solveHour_145 ?_
        refine tp_any (fun y_23 => ?_)
        refine va_iast hx hb hK hP hD hS 3 2 rfl rfl (vp_in_nI (show h * 61 + x < 1525 by omega) (by omega)) dX1_solveHour_146 (fun H locs hP hD hS => ?_)
        have hP : va_P (dC, dI) vwCl [(b0, .inr (1, [.ref b1, .ref b2, .int (nI ltk), .int (nI lgv), .int lhc, .int lew, .int lsl, .int lsh, .ref b3, .ref b4, .ref b5, .ref b6])), (b1, .inl (kb1, 24, .inl pr)), (b2, .inl (kb2, 24, .inl lr)), (b3, .inl (kb3, 1525, .inl (upd tbv (nI (h * 61 + x)).toNatClampNeg (y_23)))), (b4, .inl (kb4, 25, .inl f_17)), (b5, .inl (kb5, 24, .inl f_7)), (b6, .inl (kb6, 24, .inl f_14))] H := hP
        have hD : va_D A [(b0, .inr (1, [.ref b1, .ref b2, .int (nI ltk), .int (nI lgv), .int lhc, .int lew, .int lsl, .int lsh, .ref b3, .ref b4, .ref b5, .ref b6])), (b1, .inl (kb1, 24, .inl pr)), (b2, .inl (kb2, 24, .inl lr)), (b3, .inl (kb3, 1525, .inl (upd tbv (nI (h * 61 + x)).toNatClampNeg (y_23)))), (b4, .inl (kb4, 25, .inl f_17)), (b5, .inl (kb5, 24, .inl f_7)), (b6, .inl (kb6, 24, .inl f_14))] := hD
        generalize ef_24 : upd tbv (nI (h * 61 + x)).toNatClampNeg (y_23) = f_24 at hP hD
        clear ef_24
        refine lv_iinc (v := nI (x + 1)) (lv' := [(3, .int (nI (x + 1))), (4, .int (nI j_20)), (0, .ref b0), (1, .int (nI h))]) hx hb dX1_solveHour_147 hl (k := 3) rfl (inc_n x 1) (by decide) rfl (fun ls hl => ?_)
        refine lv_goto (tgt := 100) hx hb dX1_solveHour_150 (by decide) ?_
        exact ih (x + 1) f_24 _ _ _ (by first | assumption | omega) (by omega) hP hD hS (lv_sub hl [2, 3, 0] rfl)
  exact L100 (61 - 0 + 1) 0 tb _ _ _ (by first | assumption | omega) (Nat.lt_succ_self _) hP hD hS (lv_sub hl [2, 3, 0] rfl)
set_option maxHeartbeats 4000000 in
set_option maxRecDepth 100000 in
theorem c_X1_solve (l : Launch) (dC : Nat → ClassId) (dI : Nat → Nat → Nat) (b0 b1 b2 b3 b4 b5 b6 : Nat) (kb1 kb2 kb3 kb4 kb5 kb6 : ClassId) (sz : Nat) (ltk : Nat) (lgv : Nat) (lhc : Int32) (lew : Int32) (lsl : Int32) (lsh : Int32) (pr : Nat → Int32) (lr : Nat → Int32) (tb : Nat → Int32) (hi : Nat → Int32) (by_ : Nat → Int32) (se : Nat → Int32) (la : Nat) (fi : Nat) (i0 : ltk ≤ 9) (i1 : lgv ≤ 9) (i2 : bdA 60 24 lr) (i3 : bdA 60 25 hi) (i4 : bdA 60 24 by_) (i5 : bdA 60 24 se) (g0 : la ≤ 24) (g1 : fi ≤ 24) : Met l yX1_solve wsX1_solve ({ frames := 4, cells := 0, slots := 0, locals := 93 }) (va_Pc [.ref b0, .int (nI la), .int (nI fi)] (fun U => U.heap.size = sz ∧ va_P (dC, dI) vwCl [(b0, .inr (1, [.ref b1, .ref b2, .int (nI ltk), .int (nI lgv), .int lhc, .int lew, .int lsl, .int lsh, .ref b3, .ref b4, .ref b5, .ref b6])), (b1, .inl (kb1, 24, .inl pr)), (b2, .inl (kb2, 24, .inl lr)), (b3, .inl (kb3, 1525, .inl tb)), (b4, .inl (kb4, 25, .inl hi)), (b5, .inl (kb5, 24, .inl by_)), (b6, .inl (kb6, 24, .inl se))] U.heap ∧ va_K (dC, dI) vwCl [(kb1, .int), (kb2, .int), (kb3, .int), (kb4, .int), (kb5, .int), (kb6, .int)] U ∧ va_D (fun _ => True) [(b0, .inr (1, [.ref b1, .ref b2, .int (nI ltk), .int (nI lgv), .int lhc, .int lew, .int lsl, .int lsh, .ref b3, .ref b4, .ref b5, .ref b6])), (b1, .inl (kb1, 24, .inl pr)), (b2, .inl (kb2, 24, .inl lr)), (b3, .inl (kb3, 1525, .inl tb)), (b4, .inl (kb4, 25, .inl hi)), (b5, .inl (kb5, 24, .inl by_)), (b6, .inl (kb6, 24, .inl se))])) (va_Qv (fun _ : Unit => True) (fun _ t => ∃ (tb' : Nat → Int32) (hi' : Nat → Int32) (by_' : Nat → Int32) (se' : Nat → Int32), bdA 60 25 hi' ∧ bdA 60 24 by_' ∧ bdA 60 24 se' ∧ va_P (dC, dI) vwCl [(b0, .inr (1, [.ref b1, .ref b2, .int (nI ltk), .int (nI lgv), .int lhc, .int lew, .int lsl, .int lsh, .ref b3, .ref b4, .ref b5, .ref b6])), (b1, .inl (kb1, 24, .inl pr)), (b2, .inl (kb2, 24, .inl lr)), (b3, .inl (kb3, 1525, .inl tb')), (b4, .inl (kb4, 25, .inl hi')), (b5, .inl (kb5, 24, .inl by_')), (b6, .inl (kb6, 24, .inl se'))] t.heap ∧ va_K (dC, dI) vwCl [(kb1, .int), (kb2, .int), (kb3, .int), (kb4, .int), (kb5, .int), (kb6, .int)] t ∧ va_D (va_A [(b0, .inr (1, [.ref b1, .ref b2, .int (nI ltk), .int (nI lgv), .int lhc, .int lew, .int lsl, .int lsh, .ref b3, .ref b4, .ref b5, .ref b6])), (b1, .inl (kb1, 24, .inl pr)), (b2, .inl (kb2, 24, .inl lr)), (b3, .inl (kb3, 1525, .inl tb)), (b4, .inl (kb4, 25, .inl hi)), (b5, .inl (kb5, 24, .inl by_)), (b6, .inl (kb6, 24, .inl se))] sz) [(b0, .inr (1, [.ref b1, .ref b2, .int (nI ltk), .int (nI lgv), .int lhc, .int lew, .int lsl, .int lsh, .ref b3, .ref b4, .ref b5, .ref b6])), (b1, .inl (kb1, 24, .inl pr)), (b2, .inl (kb2, 24, .inl lr)), (b3, .inl (kb3, 1525, .inl tb')), (b4, .inl (kb4, 25, .inl hi')), (b5, .inl (kb5, 24, .inl by_')), (b6, .inl (kb6, 24, .inl se'))]) (va_A [(b0, .inr (1, [.ref b1, .ref b2, .int (nI ltk), .int (nI lgv), .int lhc, .int lew, .int lsl, .int lsh, .ref b3, .ref b4, .ref b5, .ref b6])), (b1, .inl (kb1, 24, .inl pr)), (b2, .inl (kb2, 24, .inl lr)), (b3, .inl (kb3, 1525, .inl tb)), (b4, .inl (kb4, 25, .inl hi)), (b5, .inl (kb5, 24, .inl by_)), (b6, .inl (kb6, 24, .inl se))] sz)) 0 0 (va_A [(b0, .inr (1, [.ref b1, .ref b2, .int (nI ltk), .int (nI lgv), .int lhc, .int lew, .int lsl, .int lsh, .ref b3, .ref b4, .ref b5, .ref b6])), (b1, .inl (kb1, 24, .inl pr)), (b2, .inl (kb2, 24, .inl lr)), (b3, .inl (kb3, 1525, .inl tb)), (b4, .inl (kb4, 25, .inl hi)), (b5, .inl (kb5, 24, .inl by_)), (b6, .inl (kb6, 24, .inl se))] sz) := by
  refine Met.ofW (cc := cX1_solve) (maxL := 4) (ret := none) (by decide) rfl ?_
  intro p e s m args below meth c s₁ B hml hv
  obtain ⟨rfl, hsz, hP, hK, hD0⟩ := hv
  have hx := B.exec
  have hb := B.bytes
  have hr := B.returns
  have hts := atoms_spec (ws := wsX1_solve) B.pre
  have hown : s.vm.findClass RX1 = some m.cls := findClass_of_methodNamed B.named
  have hlocks := B.notSynchronized
  have inX1 : ∀ w ∈ wsX10, w ∈ wsX1_solve := fun _ h => List.mem_cons_of_mem _ (List.mem_append_right _ h)
  subst hsz
  have hD := hD0.self (sz := s.heap.size)
  generalize hAe : va_A [(b0, .inr (1, [.ref b1, .ref b2, .int (nI ltk), .int (nI lgv), .int lhc, .int lew, .int lsl, .int lsh, .ref b3, .ref b4, .ref b5, .ref b6])), (b1, .inl (kb1, 24, .inl pr)), (b2, .inl (kb2, 24, .inl lr)), (b3, .inl (kb3, 1525, .inl tb)), (b4, .inl (kb4, 25, .inl hi)), (b5, .inl (kb5, 24, .inl by_)), (b6, .inl (kb6, 24, .inl se))] s.heap.size = A at hD ⊢
  have hA : ∀ q : Nat, s.heap.size ≤ q → A q := fun q h => by rw [← hAe]; exact Or.inr h
  have hS : va_S A s.heap s.heap [] := va_S.rf
  have hl := lv_entry ([.ref b0, .int (nI la), .int (nI fi)]) (n := 4) (Nat.le_of_ble_eq_true rfl)
  rw [lg_entry_eq]
  generalize (lg_sl ([.ref b0, .int (nI la), .int (nI fi)]) ++ List.replicate (4 - (lg_sl ([.ref b0, .int (nI la), .int (nI fi)])).length) Slot.unset).toArray = ls at hl ⊢
  generalize hQe : MQ below _ _ s 0 0 _ = Q
  generalize ([.ref b0, .int (nI la), .int (nI fi)] : List Value).toArray = args at hts hQe ⊢
  have hl : lv_has ls 4 [(0, .ref b0), (1, .int (nI la)), (2, .int (nI fi))] := hl
  refine lv_iload_n hx hb dX1_solve_0 rfl (lv_at hl 1 rfl) ?_
  refine lv_bipush (v := nI 23) hx hb dX1_solve_1 (by decide) ?_
  refine lv_icmp_lt (tgt := 10) hx hb dX1_solve_3 (by decide) (fun c_3 => ?_) (fun c_3 => ?_)
  · have c_3 := (nI_ltI (by omega : la < 2 ^ 31) (by omega : 23 < 2 ^ 31)).mp c_3
    refine lv_iload_n hx hb dX1_solve_10 rfl (lv_at hl 1 rfl) ?_
    refine lv_bipush (v := nI 23) hx hb dX1_solve_11 (by decide) ?_
    refine va_mmin hx hb (hml.trans hl.1.symm) (own := RX1) hown (hts (.methodLink RX1 61 Lib.Math.min.name) (List.mem_of_getElem? (i := 1) rfl)) (hts (.static Lib.Math.min.name) (List.mem_of_getElem? (i := 2) rfl)) (hts (.initialized "java/lang/Math") (List.mem_of_getElem? (i := 3) rfl)) (hts (.code Lib.Math.min.name Lib.Math.min.code 2 (some .int)) (List.mem_of_getElem? (i := 4) rfl)) (Nat.le_of_ble_eq_true rfl) (Nat.le_of_ble_eq_true rfl) (Nat.le_of_ble_eq_true rfl) (Nat.le_of_ble_eq_true rfl) dX1_solve_13 ?_
    refine tp_as (mm_min (a := la) (b := 23) (by omega) (by omega)) ?_
    refine lv_istore_n (lv' := [(3, .int (nI (min la 23))), (0, .ref b0), (1, .int (nI la)), (2, .int (nI fi))]) hx hb dX1_solve_16 rfl hl (by decide) rfl (fun ls hl => ?_)
    have hl : lv_has ls 4 [(3, .int (dn (min la 23 + 1))), (0, .ref b0), (1, .int (nI la)), (2, .int (nI fi))] := by rw [dn_s]; exact hl
    have L17 : ∀ (n : Nat) (t : Nat) (tbv : Nat → Int32) (hiv : Nat → Int32) (byv : Nat → Int32) (sev : Nat → Int32) (H : Heap) (locs : List Loc) (ls : Array Slot), t ≤ 24 → bdA 60 25 hiv → bdA 60 24 byv → bdA 60 24 sev → t < n → va_P (dC, dI) vwCl [(b0, .inr (1, [.ref b1, .ref b2, .int (nI ltk), .int (nI lgv), .int lhc, .int lew, .int lsl, .int lsh, .ref b3, .ref b4, .ref b5, .ref b6])), (b1, .inl (kb1, 24, .inl pr)), (b2, .inl (kb2, 24, .inl lr)), (b3, .inl (kb3, 1525, .inl tbv)), (b4, .inl (kb4, 25, .inl hiv)), (b5, .inl (kb5, 24, .inl byv)), (b6, .inl (kb6, 24, .inl sev))] H → va_D A [(b0, .inr (1, [.ref b1, .ref b2, .int (nI ltk), .int (nI lgv), .int lhc, .int lew, .int lsl, .int lsh, .ref b3, .ref b4, .ref b5, .ref b6])), (b1, .inl (kb1, 24, .inl pr)), (b2, .inl (kb2, 24, .inl lr)), (b3, .inl (kb3, 1525, .inl tbv)), (b4, .inl (kb4, 25, .inl hiv)), (b5, .inl (kb5, 24, .inl byv)), (b6, .inl (kb6, 24, .inl sev))] → va_S A s.heap H locs → lv_has ls 4 [(0, .ref b0), (2, .int (nI fi)), (3, .int (dn t))] → W p l e (headSpec wsX1_solve { frames := 4, cells := 0, slots := 0, locals := 93 }).room s m args below meth c H locs 0 0 Q (F0 m 17 ls []) := by
      intro n
      induction n with
      | zero => intro t tbv hiv byv sev H locs ls hL17_0 hL17_1 hL17_2 hL17_3 hn; exact absurd hn (Nat.not_lt_zero _)
      | succ n ih =>
        intro t tbv hiv byv sev H locs ls hL17_0 hL17_1 hL17_2 hL17_3 hn hP hD hS hl
        refine lv_iload_n hx hb dX1_solve_17 rfl (lv_at hl 2 rfl) ?_
        refine lv_iload_n hx hb dX1_solve_18 rfl (lv_at hl 1 rfl) ?_
        refine lv_iconst (v := nI 0) hx hb dX1_solve_19 (by decide) ?_
        refine va_mmax hx hb (hml.trans hl.1.symm) (own := RX1) hown (hts (.methodLink RX1 70 Lib.Math.max.name) (List.mem_of_getElem? (i := 5) rfl)) (hts (.static Lib.Math.max.name) (List.mem_of_getElem? (i := 6) rfl)) (hts (.initialized "java/lang/Math") (List.mem_of_getElem? (i := 3) rfl)) (hts (.code Lib.Math.max.name Lib.Math.max.code 2 (some .int)) (List.mem_of_getElem? (i := 7) rfl)) (Nat.le_of_ble_eq_true rfl) (Nat.le_of_ble_eq_true rfl) (Nat.le_of_ble_eq_true rfl) (Nat.le_of_ble_eq_true rfl) dX1_solve_20 ?_
        refine tp_as (mm_max (a := fi) (b := 0) (by omega) (by omega)) ?_
        refine lv_icmp_lt (tgt := 37) hx hb dX1_solve_23 (by decide) (fun c_23 => ?_) (fun c_23 => ?_)
        · subst hQe
          have hP9 := hP.sub (ws' := [(b0, .inr (1, [.ref b1, .ref b2, .int (nI ltk), .int (nI lgv), .int lhc, .int lew, .int lsl, .int lsh, .ref b3, .ref b4, .ref b5, .ref b6])), (b1, .inl (kb1, 24, .inl pr)), (b2, .inl (kb2, 24, .inl lr)), (b3, .inl (kb3, 1525, .inl tbv)), (b4, .inl (kb4, 25, .inl hiv)), (b5, .inl (kb5, 24, .inl byv)), (b6, .inl (kb6, 24, .inl sev))]) [0, 1, 2, 3, 4, 5, 6] rfl
          have hD9 := hD.sub (ws' := [(b0, .inr (1, [.ref b1, .ref b2, .int (nI ltk), .int (nI lgv), .int lhc, .int lew, .int lsl, .int lsh, .ref b3, .ref b4, .ref b5, .ref b6])), (b1, .inl (kb1, 24, .inl pr)), (b2, .inl (kb2, 24, .inl lr)), (b3, .inl (kb3, 1525, .inl tbv)), (b4, .inl (kb4, 25, .inl hiv)), (b5, .inl (kb5, 24, .inl byv)), (b6, .inl (kb6, 24, .inl sev))]) [0, 1, 2, 3, 4, 5, 6] (by decide) rfl
          have hK9 := hK.sub (tys' := [(kb1, .int), (kb2, .int), (kb3, .int), (kb4, .int), (kb5, .int), (kb6, .int)]) [0, 1, 2, 3, 4, 5] rfl
          subst hAe
          exact W.vret hx hb hr (fun t ht hW => ⟨⟨(), rfl, trivial, tbv, hiv, byv, sev, (by first | assumption | omega), (by first | assumption | omega), (by first | assumption | omega), by rw [ht]; exact hP9, va_K.moved hW.alike hK9, hD9⟩, hS.F ht⟩) hS.2.2 dX1_solve_37
        · obtain ⟨k_1, rfl⟩ := dn_ge c_23 (by omega)
          rw [dn_s] at hl
          refine lv_aload_n hx hb dX1_solve_26 rfl (lv_at hl 0 rfl) ?_
          refine lv_iload_n hx hb dX1_solve_27 rfl (lv_at hl 2 rfl) ?_
          have hPc := hP.sub (ws' := [(b0, .inr (1, [.ref b1, .ref b2, .int (nI ltk), .int (nI lgv), .int lhc, .int lew, .int lsl, .int lsh, .ref b3, .ref b4, .ref b5, .ref b6])), (b1, .inl (kb1, 24, .inl pr)), (b2, .inl (kb2, 24, .inl lr)), (b3, .inl (kb3, 1525, .inl tbv)), (b4, .inl (kb4, 25, .inl hiv)), (b5, .inl (kb5, 24, .inl byv)), (b6, .inl (kb6, 24, .inl sev))]) [0, 1, 2, 3, 4, 5, 6] rfl
          have hKc := hK.sub (tys' := [(kb1, .int), (kb2, .int), (kb3, .int), (kb4, .int), (kb5, .int), (kb6, .int)]) [0, 1, 2, 3, 4, 5] rfl
          have hDc := hD.sub (ws' := [(b0, .inr (1, [.ref b1, .ref b2, .int (nI ltk), .int (nI lgv), .int lhc, .int lew, .int lsl, .int lsh, .ref b3, .ref b4, .ref b5, .ref b6])), (b1, .inl (kb1, 24, .inl pr)), (b2, .inl (kb2, 24, .inl lr)), (b3, .inl (kb3, 1525, .inl tbv)), (b4, .inl (kb4, 25, .inl hiv)), (b5, .inl (kb5, 24, .inl byv)), (b6, .inl (kb6, 24, .inl sev))]) [0, 1, 2, 3, 4, 5, 6] (by decide) rfl
          have hFc := va_free (wc := [(b0, .inr (1, [.ref b1, .ref b2, .int (nI ltk), .int (nI lgv), .int lhc, .int lew, .int lsl, .int lsh, .ref b3, .ref b4, .ref b5, .ref b6])), (b1, .inl (kb1, 24, .inl pr)), (b2, .inl (kb2, 24, .inl lr)), (b3, .inl (kb3, 1525, .inl tbv)), (b4, .inl (kb4, 25, .inl hiv)), (b5, .inl (kb5, 24, .inl byv)), (b6, .inl (kb6, 24, .inl sev))]) hD hS hA [0, 1, 2, 3, 4, 5, 6] rfl
          refine va_callv (va_runV (As := [.int (nI k_1)]) (rest := []) ⟨hx, hb, hml, hown, hts⟩ (c_X1_solveHour l dC dI b0 b1 b2 b3 b4 b5 b6 kb1 kb2 kb3 kb4 kb5 kb6 H.size ltk lgv lhc lew lsl lsh pr lr tbv hiv byv sev k_1 (by first | assumption | omega) (by first | assumption | omega) (by first | assumption | omega) (by first | assumption | omega) (by first | assumption | omega) (by first | assumption | omega) (by first | assumption | omega)) (cwV 1 hts gX1_solve_X1_solveHour rfl rfl rfl (by decide +kernel) ⟨Nat.le_of_ble_eq_true rfl, Nat.le_of_ble_eq_true rfl⟩) ⟨fun a U g mk q => by obtain ⟨q0, q1, qP, qK, qD⟩ := q; exact ⟨q0, q1, qP, va_K.moved (u := U) (U := U.calling g mk a) (Vm.Alike.refl U.vm) qK, qD⟩, va_recv hKc hPc (ci := 1) (q0 := 0) rfl rfl, fun U hU hW => ⟨rfl, by rw [hU], by rw [hU]; exact hPc, va_K.moved hW.alike hKc, hDc.weaken (fun _ _ _ _ => trivial)⟩⟩ rfl rfl hl.1 rfl (lv_room (Nat.le_of_ble_eq_true rfl)) dX1_solve_28 ⟨Nat.le_of_ble_eq_true rfl, Nat.le_of_ble_eq_true rfl⟩) hS (fun q _ h => hFc q h) hFc (fun u t H1 locs ht hvm hw hB hz1 hk1 hS => ?_)
          refine W.widen (k := 0) (n := 0) (Nat.le_of_ble_eq_true rfl) (Nat.le_of_ble_eq_true rfl) ?_
          obtain ⟨⟩ := u
          obtain ⟨tb_3, hi_4, by_5, se_6, h_7, h_8, h_9, hP1, hK1, hD1⟩ := hB
          rw [ht] at hP1
          obtain ⟨hP, hD⟩ := va_join (wr := []) (w1 := [(b0, .inr (1, [.ref b1, .ref b2, .int (nI ltk), .int (nI lgv), .int lhc, .int lew, .int lsl, .int lsh, .ref b3, .ref b4, .ref b5, .ref b6])), (b1, .inl (kb1, 24, .inl pr)), (b2, .inl (kb2, 24, .inl lr)), (b3, .inl (kb3, 1525, .inl tb_3)), (b4, .inl (kb4, 25, .inl hi_4)), (b5, .inl (kb5, 24, .inl by_5)), (b6, .inl (kb6, 24, .inl se_6))]) hP hD [0, 1, 2, 3, 4, 5, 6] [] rfl rfl (by decide) (by decide) hk1 hFc hP1 hD1
          clear hPc hDc hKc hFc hz1 hk1 ht hvm hP1 hK1 hD1 hw t
          generalize H1 = H at hP hS ⊢
          have hP := hP.sub (ws' := [(b0, .inr (1, [.ref b1, .ref b2, .int (nI ltk), .int (nI lgv), .int lhc, .int lew, .int lsl, .int lsh, .ref b3, .ref b4, .ref b5, .ref b6])), (b1, .inl (kb1, 24, .inl pr)), (b2, .inl (kb2, 24, .inl lr)), (b3, .inl (kb3, 1525, .inl tb_3)), (b4, .inl (kb4, 25, .inl hi_4)), (b5, .inl (kb5, 24, .inl by_5)), (b6, .inl (kb6, 24, .inl se_6))]) [0, 1, 2, 3, 4, 5, 6] rfl
          have hD := hD.sub (ws' := [(b0, .inr (1, [.ref b1, .ref b2, .int (nI ltk), .int (nI lgv), .int lhc, .int lew, .int lsl, .int lsh, .ref b3, .ref b4, .ref b5, .ref b6])), (b1, .inl (kb1, 24, .inl pr)), (b2, .inl (kb2, 24, .inl lr)), (b3, .inl (kb3, 1525, .inl tb_3)), (b4, .inl (kb4, 25, .inl hi_4)), (b5, .inl (kb5, 24, .inl by_5)), (b6, .inl (kb6, 24, .inl se_6))]) [0, 1, 2, 3, 4, 5, 6] (by decide) rfl
          refine lv_iinc (v := dn k_1) (lv' := [(3, .int (dn k_1)), (0, .ref b0), (2, .int (nI fi))]) hx hb dX1_solve_31 hl (k := 2) rfl rfl (by decide) rfl (fun ls hl => ?_)
          refine lv_goto (tgt := 17) hx hb dX1_solve_34 (by decide) ?_
          exact ih k_1 tb_3 hi_4 by_5 se_6 _ _ _ (by first | assumption | omega) (by first | assumption | omega) (by first | assumption | omega) (by first | assumption | omega) (by omega) hP hD hS (lv_sub hl [1, 2, 0] rfl)
    exact L17 ((min la 23 + 1) + 1) (min la 23 + 1) tb hi by_ se _ _ _ (by first | assumption | omega) (by first | assumption | omega) (by first | assumption | omega) (by first | assumption | omega) (Nat.lt_succ_self _) hP hD hS (lv_sub hl [1, 3, 0] rfl)
  · have c_3 := (not_congr (nI_ltI (by omega : la < 2 ^ 31) (by omega : 23 < 2 ^ 31))).mp c_3
    refine lv_aload_n hx hb dX1_solve_6 rfl (lv_at hl 0 rfl) ?_
    have hPc := hP.sub (ws' := [(b0, .inr (1, [.ref b1, .ref b2, .int (nI ltk), .int (nI lgv), .int lhc, .int lew, .int lsl, .int lsh, .ref b3, .ref b4, .ref b5, .ref b6])), (b1, .inl (kb1, 24, .inl pr)), (b2, .inl (kb2, 24, .inl lr)), (b3, .inl (kb3, 1525, .inl tb)), (b4, .inl (kb4, 25, .inl hi)), (b5, .inl (kb5, 24, .inl by_)), (b6, .inl (kb6, 24, .inl se))]) [0, 1, 2, 3, 4, 5, 6] rfl
    have hKc := hK.sub (tys' := [(kb1, .int), (kb2, .int), (kb3, .int), (kb4, .int), (kb5, .int), (kb6, .int)]) [0, 1, 2, 3, 4, 5] rfl
    have hDc := hD.sub (ws' := [(b0, .inr (1, [.ref b1, .ref b2, .int (nI ltk), .int (nI lgv), .int lhc, .int lew, .int lsl, .int lsh, .ref b3, .ref b4, .ref b5, .ref b6])), (b1, .inl (kb1, 24, .inl pr)), (b2, .inl (kb2, 24, .inl lr)), (b3, .inl (kb3, 1525, .inl tb)), (b4, .inl (kb4, 25, .inl hi)), (b5, .inl (kb5, 24, .inl by_)), (b6, .inl (kb6, 24, .inl se))]) [0, 1, 2, 3, 4, 5, 6] (by decide) rfl
    have hFc := va_free (wc := [(b0, .inr (1, [.ref b1, .ref b2, .int (nI ltk), .int (nI lgv), .int lhc, .int lew, .int lsl, .int lsh, .ref b3, .ref b4, .ref b5, .ref b6])), (b1, .inl (kb1, 24, .inl pr)), (b2, .inl (kb2, 24, .inl lr)), (b3, .inl (kb3, 1525, .inl tb)), (b4, .inl (kb4, 25, .inl hi)), (b5, .inl (kb5, 24, .inl by_)), (b6, .inl (kb6, 24, .inl se))]) hD hS hA [0, 1, 2, 3, 4, 5, 6] rfl
    refine va_callv (va_runV (As := []) (rest := []) ⟨hx, hb, hml, hown, hts⟩ (c_X1_solveEnd l dC dI b0 b1 b2 b3 b4 b5 b6 kb1 kb2 kb3 kb4 kb5 kb6 s.heap.size ltk lgv lhc lew lsl lsh pr lr tb hi by_ se  (by first | assumption | omega) (by first | assumption | omega) (by first | assumption | omega) (by first | assumption | omega) (by first | assumption | omega) (by first | assumption | omega) ) (cwV 0 hts gX1_solve_X1_solveEnd rfl rfl rfl (by decide +kernel) ⟨Nat.le_of_ble_eq_true rfl, Nat.le_of_ble_eq_true rfl⟩) ⟨fun a U g mk q => by obtain ⟨q0, q1, qP, qK, qD⟩ := q; exact ⟨q0, q1, qP, va_K.moved (u := U) (U := U.calling g mk a) (Vm.Alike.refl U.vm) qK, qD⟩, va_recv hKc hPc (ci := 1) (q0 := 0) rfl rfl, fun U hU hW => ⟨rfl, by rw [hU], by rw [hU]; exact hPc, va_K.moved hW.alike hKc, hDc.weaken (fun _ _ _ _ => trivial)⟩⟩ rfl rfl hl.1 rfl (lv_room (Nat.le_of_ble_eq_true rfl)) dX1_solve_7 ⟨Nat.le_of_ble_eq_true rfl, Nat.le_of_ble_eq_true rfl⟩) hS (fun q _ h => hFc q h) hFc (fun u t H1 locs ht hvm hw hB hz1 hk1 hS => ?_)
    refine W.widen (k := 0) (n := 0) (Nat.le_of_ble_eq_true rfl) (Nat.le_of_ble_eq_true rfl) ?_
    obtain ⟨⟩ := u
    obtain ⟨tb_11, hi_12, h_13, hP1, hK1, hD1⟩ := hB
    rw [ht] at hP1
    obtain ⟨hP, hD⟩ := va_join (wr := []) (w1 := [(b0, .inr (1, [.ref b1, .ref b2, .int (nI ltk), .int (nI lgv), .int lhc, .int lew, .int lsl, .int lsh, .ref b3, .ref b4, .ref b5, .ref b6])), (b1, .inl (kb1, 24, .inl pr)), (b2, .inl (kb2, 24, .inl lr)), (b3, .inl (kb3, 1525, .inl tb_11)), (b4, .inl (kb4, 25, .inl hi_12)), (b5, .inl (kb5, 24, .inl by_)), (b6, .inl (kb6, 24, .inl se))]) hP hD [0, 1, 2, 3, 4, 5, 6] [] rfl rfl (by decide) (by decide) hk1 hFc hP1 hD1
    clear hPc hDc hKc hFc hz1 hk1 ht hvm hP1 hK1 hD1 hw t
    generalize H1 = H at hP hS ⊢
    have hP := hP.sub (ws' := [(b0, .inr (1, [.ref b1, .ref b2, .int (nI ltk), .int (nI lgv), .int lhc, .int lew, .int lsl, .int lsh, .ref b3, .ref b4, .ref b5, .ref b6])), (b1, .inl (kb1, 24, .inl pr)), (b2, .inl (kb2, 24, .inl lr)), (b3, .inl (kb3, 1525, .inl tb_11)), (b4, .inl (kb4, 25, .inl hi_12)), (b5, .inl (kb5, 24, .inl by_)), (b6, .inl (kb6, 24, .inl se))]) [0, 1, 2, 3, 4, 5, 6] rfl
    have hD := hD.sub (ws' := [(b0, .inr (1, [.ref b1, .ref b2, .int (nI ltk), .int (nI lgv), .int lhc, .int lew, .int lsl, .int lsh, .ref b3, .ref b4, .ref b5, .ref b6])), (b1, .inl (kb1, 24, .inl pr)), (b2, .inl (kb2, 24, .inl lr)), (b3, .inl (kb3, 1525, .inl tb_11)), (b4, .inl (kb4, 25, .inl hi_12)), (b5, .inl (kb5, 24, .inl by_)), (b6, .inl (kb6, 24, .inl se))]) [0, 1, 2, 3, 4, 5, 6] (by decide) rfl
    refine lv_iload_n hx hb dX1_solve_10 rfl (lv_at hl 1 rfl) ?_
    refine lv_bipush (v := nI 23) hx hb dX1_solve_11 (by decide) ?_
    refine va_mmin hx hb (hml.trans hl.1.symm) (own := RX1) hown (hts (.methodLink RX1 61 Lib.Math.min.name) (List.mem_of_getElem? (i := 1) rfl)) (hts (.static Lib.Math.min.name) (List.mem_of_getElem? (i := 2) rfl)) (hts (.initialized "java/lang/Math") (List.mem_of_getElem? (i := 3) rfl)) (hts (.code Lib.Math.min.name Lib.Math.min.code 2 (some .int)) (List.mem_of_getElem? (i := 4) rfl)) (Nat.le_of_ble_eq_true rfl) (Nat.le_of_ble_eq_true rfl) (Nat.le_of_ble_eq_true rfl) (Nat.le_of_ble_eq_true rfl) dX1_solve_13 ?_
    refine tp_as (mm_min (a := la) (b := 23) (by omega) (by omega)) ?_
    refine lv_istore_n (lv' := [(3, .int (nI (min la 23))), (0, .ref b0), (1, .int (nI la)), (2, .int (nI fi))]) hx hb dX1_solve_16 rfl hl (by decide) rfl (fun ls hl => ?_)
    have hl : lv_has ls 4 [(3, .int (dn (min la 23 + 1))), (0, .ref b0), (1, .int (nI la)), (2, .int (nI fi))] := by rw [dn_s]; exact hl
    have L17 : ∀ (n : Nat) (t : Nat) (tbv : Nat → Int32) (hiv : Nat → Int32) (byv : Nat → Int32) (sev : Nat → Int32) (H : Heap) (locs : List Loc) (ls : Array Slot), t ≤ 24 → bdA 60 25 hiv → bdA 60 24 byv → bdA 60 24 sev → t < n → va_P (dC, dI) vwCl [(b0, .inr (1, [.ref b1, .ref b2, .int (nI ltk), .int (nI lgv), .int lhc, .int lew, .int lsl, .int lsh, .ref b3, .ref b4, .ref b5, .ref b6])), (b1, .inl (kb1, 24, .inl pr)), (b2, .inl (kb2, 24, .inl lr)), (b3, .inl (kb3, 1525, .inl tbv)), (b4, .inl (kb4, 25, .inl hiv)), (b5, .inl (kb5, 24, .inl byv)), (b6, .inl (kb6, 24, .inl sev))] H → va_D A [(b0, .inr (1, [.ref b1, .ref b2, .int (nI ltk), .int (nI lgv), .int lhc, .int lew, .int lsl, .int lsh, .ref b3, .ref b4, .ref b5, .ref b6])), (b1, .inl (kb1, 24, .inl pr)), (b2, .inl (kb2, 24, .inl lr)), (b3, .inl (kb3, 1525, .inl tbv)), (b4, .inl (kb4, 25, .inl hiv)), (b5, .inl (kb5, 24, .inl byv)), (b6, .inl (kb6, 24, .inl sev))] → va_S A s.heap H locs → lv_has ls 4 [(0, .ref b0), (2, .int (nI fi)), (3, .int (dn t))] → W p l e (headSpec wsX1_solve { frames := 4, cells := 0, slots := 0, locals := 93 }).room s m args below meth c H locs 0 0 Q (F0 m 17 ls []) := by
      intro n
      induction n with
      | zero => intro t tbv hiv byv sev H locs ls hL17_0 hL17_1 hL17_2 hL17_3 hn; exact absurd hn (Nat.not_lt_zero _)
      | succ n ih =>
        intro t tbv hiv byv sev H locs ls hL17_0 hL17_1 hL17_2 hL17_3 hn hP hD hS hl
        refine lv_iload_n hx hb dX1_solve_17 rfl (lv_at hl 2 rfl) ?_
        refine lv_iload_n hx hb dX1_solve_18 rfl (lv_at hl 1 rfl) ?_
        refine lv_iconst (v := nI 0) hx hb dX1_solve_19 (by decide) ?_
        refine va_mmax hx hb (hml.trans hl.1.symm) (own := RX1) hown (hts (.methodLink RX1 70 Lib.Math.max.name) (List.mem_of_getElem? (i := 5) rfl)) (hts (.static Lib.Math.max.name) (List.mem_of_getElem? (i := 6) rfl)) (hts (.initialized "java/lang/Math") (List.mem_of_getElem? (i := 3) rfl)) (hts (.code Lib.Math.max.name Lib.Math.max.code 2 (some .int)) (List.mem_of_getElem? (i := 7) rfl)) (Nat.le_of_ble_eq_true rfl) (Nat.le_of_ble_eq_true rfl) (Nat.le_of_ble_eq_true rfl) (Nat.le_of_ble_eq_true rfl) dX1_solve_20 ?_
        refine tp_as (mm_max (a := fi) (b := 0) (by omega) (by omega)) ?_
        refine lv_icmp_lt (tgt := 37) hx hb dX1_solve_23 (by decide) (fun c_23 => ?_) (fun c_23 => ?_)
        · subst hQe
          have hP9 := hP.sub (ws' := [(b0, .inr (1, [.ref b1, .ref b2, .int (nI ltk), .int (nI lgv), .int lhc, .int lew, .int lsl, .int lsh, .ref b3, .ref b4, .ref b5, .ref b6])), (b1, .inl (kb1, 24, .inl pr)), (b2, .inl (kb2, 24, .inl lr)), (b3, .inl (kb3, 1525, .inl tbv)), (b4, .inl (kb4, 25, .inl hiv)), (b5, .inl (kb5, 24, .inl byv)), (b6, .inl (kb6, 24, .inl sev))]) [0, 1, 2, 3, 4, 5, 6] rfl
          have hD9 := hD.sub (ws' := [(b0, .inr (1, [.ref b1, .ref b2, .int (nI ltk), .int (nI lgv), .int lhc, .int lew, .int lsl, .int lsh, .ref b3, .ref b4, .ref b5, .ref b6])), (b1, .inl (kb1, 24, .inl pr)), (b2, .inl (kb2, 24, .inl lr)), (b3, .inl (kb3, 1525, .inl tbv)), (b4, .inl (kb4, 25, .inl hiv)), (b5, .inl (kb5, 24, .inl byv)), (b6, .inl (kb6, 24, .inl sev))]) [0, 1, 2, 3, 4, 5, 6] (by decide) rfl
          have hK9 := hK.sub (tys' := [(kb1, .int), (kb2, .int), (kb3, .int), (kb4, .int), (kb5, .int), (kb6, .int)]) [0, 1, 2, 3, 4, 5] rfl
          subst hAe
          exact W.vret hx hb hr (fun t ht hW => ⟨⟨(), rfl, trivial, tbv, hiv, byv, sev, (by first | assumption | omega), (by first | assumption | omega), (by first | assumption | omega), by rw [ht]; exact hP9, va_K.moved hW.alike hK9, hD9⟩, hS.F ht⟩) hS.2.2 dX1_solve_37
        · obtain ⟨k_14, rfl⟩ := dn_ge c_23 (by omega)
          rw [dn_s] at hl
          refine lv_aload_n hx hb dX1_solve_26 rfl (lv_at hl 0 rfl) ?_
          refine lv_iload_n hx hb dX1_solve_27 rfl (lv_at hl 2 rfl) ?_
          have hPc := hP.sub (ws' := [(b0, .inr (1, [.ref b1, .ref b2, .int (nI ltk), .int (nI lgv), .int lhc, .int lew, .int lsl, .int lsh, .ref b3, .ref b4, .ref b5, .ref b6])), (b1, .inl (kb1, 24, .inl pr)), (b2, .inl (kb2, 24, .inl lr)), (b3, .inl (kb3, 1525, .inl tbv)), (b4, .inl (kb4, 25, .inl hiv)), (b5, .inl (kb5, 24, .inl byv)), (b6, .inl (kb6, 24, .inl sev))]) [0, 1, 2, 3, 4, 5, 6] rfl
          have hKc := hK.sub (tys' := [(kb1, .int), (kb2, .int), (kb3, .int), (kb4, .int), (kb5, .int), (kb6, .int)]) [0, 1, 2, 3, 4, 5] rfl
          have hDc := hD.sub (ws' := [(b0, .inr (1, [.ref b1, .ref b2, .int (nI ltk), .int (nI lgv), .int lhc, .int lew, .int lsl, .int lsh, .ref b3, .ref b4, .ref b5, .ref b6])), (b1, .inl (kb1, 24, .inl pr)), (b2, .inl (kb2, 24, .inl lr)), (b3, .inl (kb3, 1525, .inl tbv)), (b4, .inl (kb4, 25, .inl hiv)), (b5, .inl (kb5, 24, .inl byv)), (b6, .inl (kb6, 24, .inl sev))]) [0, 1, 2, 3, 4, 5, 6] (by decide) rfl
          have hFc := va_free (wc := [(b0, .inr (1, [.ref b1, .ref b2, .int (nI ltk), .int (nI lgv), .int lhc, .int lew, .int lsl, .int lsh, .ref b3, .ref b4, .ref b5, .ref b6])), (b1, .inl (kb1, 24, .inl pr)), (b2, .inl (kb2, 24, .inl lr)), (b3, .inl (kb3, 1525, .inl tbv)), (b4, .inl (kb4, 25, .inl hiv)), (b5, .inl (kb5, 24, .inl byv)), (b6, .inl (kb6, 24, .inl sev))]) hD hS hA [0, 1, 2, 3, 4, 5, 6] rfl
          refine va_callv (va_runV (As := [.int (nI k_14)]) (rest := []) ⟨hx, hb, hml, hown, hts⟩ (c_X1_solveHour l dC dI b0 b1 b2 b3 b4 b5 b6 kb1 kb2 kb3 kb4 kb5 kb6 H.size ltk lgv lhc lew lsl lsh pr lr tbv hiv byv sev k_14 (by first | assumption | omega) (by first | assumption | omega) (by first | assumption | omega) (by first | assumption | omega) (by first | assumption | omega) (by first | assumption | omega) (by first | assumption | omega)) (cwV 1 hts gX1_solve_X1_solveHour rfl rfl rfl (by decide +kernel) ⟨Nat.le_of_ble_eq_true rfl, Nat.le_of_ble_eq_true rfl⟩) ⟨fun a U g mk q => by obtain ⟨q0, q1, qP, qK, qD⟩ := q; exact ⟨q0, q1, qP, va_K.moved (u := U) (U := U.calling g mk a) (Vm.Alike.refl U.vm) qK, qD⟩, va_recv hKc hPc (ci := 1) (q0 := 0) rfl rfl, fun U hU hW => ⟨rfl, by rw [hU], by rw [hU]; exact hPc, va_K.moved hW.alike hKc, hDc.weaken (fun _ _ _ _ => trivial)⟩⟩ rfl rfl hl.1 rfl (lv_room (Nat.le_of_ble_eq_true rfl)) dX1_solve_28 ⟨Nat.le_of_ble_eq_true rfl, Nat.le_of_ble_eq_true rfl⟩) hS (fun q _ h => hFc q h) hFc (fun u t H1 locs ht hvm hw hB hz1 hk1 hS => ?_)
          refine W.widen (k := 0) (n := 0) (Nat.le_of_ble_eq_true rfl) (Nat.le_of_ble_eq_true rfl) ?_
          obtain ⟨⟩ := u
          obtain ⟨tb_16, hi_17, by_18, se_19, h_20, h_21, h_22, hP1, hK1, hD1⟩ := hB
          rw [ht] at hP1
          obtain ⟨hP, hD⟩ := va_join (wr := []) (w1 := [(b0, .inr (1, [.ref b1, .ref b2, .int (nI ltk), .int (nI lgv), .int lhc, .int lew, .int lsl, .int lsh, .ref b3, .ref b4, .ref b5, .ref b6])), (b1, .inl (kb1, 24, .inl pr)), (b2, .inl (kb2, 24, .inl lr)), (b3, .inl (kb3, 1525, .inl tb_16)), (b4, .inl (kb4, 25, .inl hi_17)), (b5, .inl (kb5, 24, .inl by_18)), (b6, .inl (kb6, 24, .inl se_19))]) hP hD [0, 1, 2, 3, 4, 5, 6] [] rfl rfl (by decide) (by decide) hk1 hFc hP1 hD1
          clear hPc hDc hKc hFc hz1 hk1 ht hvm hP1 hK1 hD1 hw t
          generalize H1 = H at hP hS ⊢
          have hP := hP.sub (ws' := [(b0, .inr (1, [.ref b1, .ref b2, .int (nI ltk), .int (nI lgv), .int lhc, .int lew, .int lsl, .int lsh, .ref b3, .ref b4, .ref b5, .ref b6])), (b1, .inl (kb1, 24, .inl pr)), (b2, .inl (kb2, 24, .inl lr)), (b3, .inl (kb3, 1525, .inl tb_16)), (b4, .inl (kb4, 25, .inl hi_17)), (b5, .inl (kb5, 24, .inl by_18)), (b6, .inl (kb6, 24, .inl se_19))]) [0, 1, 2, 3, 4, 5, 6] rfl
          have hD := hD.sub (ws' := [(b0, .inr (1, [.ref b1, .ref b2, .int (nI ltk), .int (nI lgv), .int lhc, .int lew, .int lsl, .int lsh, .ref b3, .ref b4, .ref b5, .ref b6])), (b1, .inl (kb1, 24, .inl pr)), (b2, .inl (kb2, 24, .inl lr)), (b3, .inl (kb3, 1525, .inl tb_16)), (b4, .inl (kb4, 25, .inl hi_17)), (b5, .inl (kb5, 24, .inl by_18)), (b6, .inl (kb6, 24, .inl se_19))]) [0, 1, 2, 3, 4, 5, 6] (by decide) rfl
          refine lv_iinc (v := dn k_14) (lv' := [(3, .int (dn k_14)), (0, .ref b0), (2, .int (nI fi))]) hx hb dX1_solve_31 hl (k := 2) rfl rfl (by decide) rfl (fun ls hl => ?_)
          refine lv_goto (tgt := 17) hx hb dX1_solve_34 (by decide) ?_
          exact ih k_14 tb_16 hi_17 by_18 se_19 _ _ _ (by first | assumption | omega) (by first | assumption | omega) (by first | assumption | omega) (by first | assumption | omega) (by omega) hP hD hS (lv_sub hl [1, 2, 0] rfl)
    exact L17 ((min la 23 + 1) + 1) (min la 23 + 1) tb_11 hi_12 by_ se _ _ _ (by first | assumption | omega) (by first | assumption | omega) (by first | assumption | omega) (by first | assumption | omega) (Nat.lt_succ_self _) hP hD hS (lv_sub hl [1, 3, 0] rfl)
