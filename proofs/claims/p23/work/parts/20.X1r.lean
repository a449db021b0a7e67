set_option maxHeartbeats 4000000 in
set_option maxRecDepth 100000 in
theorem c_X1_most (l : Launch) (dC : Nat → ClassId) (dI : Nat → Nat → Nat) (b0 b1 b2 b3 b4 b5 b6 : Nat) (kb1 kb2 kb3 kb4 kb5 kb6 : ClassId) (ltk : Nat) (lgv : Nat) (lhc : Int32) (lew : Int32) (lsl : Int32) (lsh : Int32) (pr : Nat → Int32) (lr : Nat → Int32) (tb : Nat → Int32) (hi : Nat → Int32) (by_ : Nat → Int32) (se : Nat → Int32) (h : Nat) (x : Nat) (i0 : ltk ≤ 9) (i1 : lgv ≤ 9) (i2 : bdA 60 24 lr) (i3 : bdA 60 25 hi) (i4 : bdA 60 24 by_) (i5 : bdA 60 24 se) (g0 : h ≤ 24) (g1 : x ≤ 60) : Met l yX1_most wsX1_most ({ frames := 0, cells := 0, slots := 0, locals := 0 }) (va_Pc [.ref b0, .int (nI h), .int (nI x)] (fun U => va_P (dC, dI) vwCl [(b0, .inr (1, [.ref b1, .ref b2, .int (nI ltk), .int (nI lgv), .int lhc, .int lew, .int lsl, .int lsh, .ref b3, .ref b4, .ref b5, .ref b6])), (b1, .inl (kb1, 24, .inl pr)), (b2, .inl (kb2, 24, .inl lr)), (b3, .inl (kb3, 1525, .inl tb)), (b4, .inl (kb4, 25, .inl hi)), (b5, .inl (kb5, 24, .inl by_)), (b6, .inl (kb6, 24, .inl se))] U.heap ∧ va_K (dC, dI) vwCl [(kb1, .int), (kb2, .int), (kb3, .int), (kb4, .int), (kb5, .int), (kb6, .int)] U)) (va_Qi (fun r (_ : Unit) => True) (fun _ _ => True) (fun _ => False)) 0 0 (fun _ => False) := by
  refine Met.ofW (cc := cX1_most) (maxL := 3) (ret := (some .int)) (by decide) rfl ?_
  intro p e s m args below meth c s₁ B hml hv
  obtain ⟨rfl, hP, hK⟩ := hv
  have hx := B.exec
  have hb := B.bytes
  have hr := B.returns
  have hts := atoms_spec (ws := wsX1_most) B.pre
  have hown : s.vm.findClass RX1 = some m.cls := findClass_of_methodNamed B.named
  have hlocks := B.notSynchronized
  have inX1 : ∀ w ∈ wsX10, w ∈ wsX1_most := fun _ h => List.mem_cons_of_mem _ (List.mem_append_right _ h)
  have hS : va_S (fun _ => False) s.heap s.heap [] := va_S.rf
  have hl := lv_entry ([.ref b0, .int (nI h), .int (nI x)]) (n := 3) (Nat.le_of_ble_eq_true rfl)
  rw [lg_entry_eq]
  generalize (lg_sl ([.ref b0, .int (nI h), .int (nI x)]) ++ List.replicate (3 - (lg_sl ([.ref b0, .int (nI h), .int (nI x)])).length) Slot.unset).toArray = ls at hl ⊢
  generalize hQe : MQ below _ _ s 0 0 _ = Q
  generalize ([.ref b0, .int (nI h), .int (nI x)] : List Value).toArray = args at hts hQe ⊢
  have hl : lv_has ls 3 [(0, .ref b0), (1, .int (nI h)), (2, .int (nI x))] := hl
  refine lv_aload_n hx hb dX1_most_0 rfl (lv_at hl 0 rfl) ?_
  refine va_get (D := (dC, dI)) (ci := 1) (v := .ref b3) (C := RX1) (T := TX1) (N := 12) hx hb hts inX1 hown hK hP 0 rfl rfl 8 (by decide) (hts (.fieldLink RX1 18 "StoreSlopes$Slopes" "table" "[I") (List.mem_of_getElem? (i := 1) rfl)) (fun _ h9 => h9) rfl dX1_most_1 ?_
  refine lv_iload_n hx hb dX1_most_4 rfl (lv_at hl 1 rfl) ?_
  refine lv_bipush (v := nI 61) hx hb dX1_most_5 (by decide) ?_
  refine lv_imul hx hb dX1_most_7 ?_
  refine tp_as (pk_mul h 61) ?_
  refine lv_iload_n hx hb dX1_most_8 rfl (lv_at hl 2 rfl) ?_
  refine lv_iadd hx hb dX1_most_9 ?_
  refine tp_as (nI_add (h * 61) x) ?_
  refine va_iald hx hb hK hP 3 2 rfl rfl (vp_in_nI (show h * 61 + x < 1525 by omega) (by omega)) dX1_most_10 ?_
  refine tp_any (fun y_1 => ?_)
  subst hQe
  exact W.iret (v := y_1) hx hb hr (fun t ht hW => ⟨⟨_, (), rfl, trivial, trivial⟩, hS.F ht⟩) hS.2.2 dX1_most_11
set_option maxHeartbeats 4000000 in
set_option maxRecDepth 100000 in
theorem c_X1_slope (l : Launch) (dC : Nat → ClassId) (dI : Nat → Nat → Nat) (b0 b1 b2 b3 b4 b5 b6 : Nat) (kb1 kb2 kb3 kb4 kb5 kb6 : ClassId) (ltk : Nat) (lgv : Nat) (lhc : Int32) (lew : Int32) (lsl : Int32) (lsh : Int32) (pr : Nat → Int32) (lr : Nat → Int32) (tb : Nat → Int32) (hi : Nat → Int32) (by_ : Nat → Int32) (se : Nat → Int32) (h : Nat) (x : Nat) (i0 : ltk ≤ 9) (i1 : lgv ≤ 9) (i2 : bdA 60 24 lr) (i3 : bdA 60 25 hi) (i4 : bdA 60 24 by_) (i5 : bdA 60 24 se) (g0 : h ≤ 24) (g1 : x ≤ 59) : Met l yX1_slope wsX1_slope ({ frames := 1, cells := 0, slots := 0, locals := 22 }) (va_Pc [.ref b0, .int (nI h), .int (nI x)] (fun U => va_P (dC, dI) vwCl [(b0, .inr (1, [.ref b1, .ref b2, .int (nI ltk), .int (nI lgv), .int lhc, .int lew, .int lsl, .int lsh, .ref b3, .ref b4, .ref b5, .ref b6])), (b1, .inl (kb1, 24, .inl pr)), (b2, .inl (kb2, 24, .inl lr)), (b3, .inl (kb3, 1525, .inl tb)), (b4, .inl (kb4, 25, .inl hi)), (b5, .inl (kb5, 24, .inl by_)), (b6, .inl (kb6, 24, .inl se))] U.heap ∧ va_K (dC, dI) vwCl [(kb1, .int), (kb2, .int), (kb3, .int), (kb4, .int), (kb5, .int), (kb6, .int)] U)) (va_Qi (fun r (_ : Unit) => True) (fun _ _ => True) (fun _ => False)) 0 0 (fun _ => False) := by
  refine Met.ofW (cc := cX1_slope) (maxL := 3) (ret := (some .int)) (by decide) rfl ?_
  intro p e s m args below meth c s₁ B hml hv
  obtain ⟨rfl, hP, hK⟩ := hv
  have hx := B.exec
  have hb := B.bytes
  have hr := B.returns
  have hts := atoms_spec (ws := wsX1_slope) B.pre
  have hown : s.vm.findClass RX1 = some m.cls := findClass_of_methodNamed B.named
  have hlocks := B.notSynchronized
  have inX1 : ∀ w ∈ wsX10, w ∈ wsX1_slope := fun _ h => List.mem_cons_of_mem _ (List.mem_append_right _ h)
  have hS : va_S (fun _ => False) s.heap s.heap [] := va_S.rf
  have hl := lv_entry ([.ref b0, .int (nI h), .int (nI x)]) (n := 3) (Nat.le_of_ble_eq_true rfl)
  rw [lg_entry_eq]
  generalize (lg_sl ([.ref b0, .int (nI h), .int (nI x)]) ++ List.replicate (3 - (lg_sl ([.ref b0, .int (nI h), .int (nI x)])).length) Slot.unset).toArray = ls at hl ⊢
  generalize hQe : MQ below _ _ s 0 0 _ = Q
  generalize ([.ref b0, .int (nI h), .int (nI x)] : List Value).toArray = args at hts hQe ⊢
  have hl : lv_has ls 3 [(0, .ref b0), (1, .int (nI h)), (2, .int (nI x))] := hl
  refine lv_aload_n hx hb dX1_slope_0 rfl (lv_at hl 0 rfl) ?_
  refine lv_iload_n hx hb dX1_slope_1 rfl (lv_at hl 1 rfl) ?_
  refine lv_iload_n hx hb dX1_slope_2 rfl (lv_at hl 2 rfl) ?_
  refine lv_iconst (v := nI 1) hx hb dX1_slope_3 (by decide) ?_
  refine lv_iadd hx hb dX1_slope_4 ?_
  refine tp_as (nI_add x 1) ?_
  have hPc := hP.sub (ws' := [(b0, .inr (1, [.ref b1, .ref b2, .int (nI ltk), .int (nI lgv), .int lhc, .int lew, .int lsl, .int lsh, .ref b3, .ref b4, .ref b5, .ref b6])), (b1, .inl (kb1, 24, .inl pr)), (b2, .inl (kb2, 24, .inl lr)), (b3, .inl (kb3, 1525, .inl tb)), (b4, .inl (kb4, 25, .inl hi)), (b5, .inl (kb5, 24, .inl by_)), (b6, .inl (kb6, 24, .inl se))]) [0, 1, 2, 3, 4, 5, 6] rfl
  have hKc := hK.sub (tys' := [(kb1, .int), (kb2, .int), (kb3, .int), (kb4, .int), (kb5, .int), (kb6, .int)]) [0, 1, 2, 3, 4, 5] rfl
  refine va_calli (va_runV (As := [.int (nI h), .int (nI (x + 1))]) (rest := []) ⟨hx, hb, hml, hown, hts⟩ (c_X1_most l dC dI b0 b1 b2 b3 b4 b5 b6 kb1 kb2 kb3 kb4 kb5 kb6 ltk lgv lhc lew lsl lsh pr lr tb hi by_ se h (x + 1) (by first | assumption | omega) (by first | assumption | omega) (by first | assumption | omega) (by first | assumption | omega) (by first | assumption | omega) (by first | assumption | omega) (by first | assumption | omega) (by first | assumption | omega)) (cwV 2 hts gX1_slope_X1_most rfl rfl rfl (by decide +kernel) ⟨Nat.le_of_ble_eq_true rfl, Nat.le_of_ble_eq_true rfl⟩) ⟨fun a U g mk q => by obtain ⟨q0, qP, qK⟩ := q; exact ⟨q0, qP, va_K.moved (u := U) (U := U.calling g mk a) (Vm.Alike.refl U.vm) qK⟩, va_recv hKc hPc (ci := 1) (q0 := 0) rfl rfl, fun U hU hW => ⟨rfl, by rw [hU]; exact hPc, va_K.moved hW.alike hKc⟩⟩ rfl rfl hl.1 rfl (lv_room (Nat.le_of_ble_eq_true rfl)) dX1_slope_5 ⟨Nat.le_of_ble_eq_true rfl, Nat.le_of_ble_eq_true rfl⟩) hS (fun q _ h => h.elim) (fun q h => h.elim) (fun r_1 u t H1 locs ht hvm hw hB hz1 hk1 hS => ?_)
  refine W.widen (k := 0) (n := 0) (Nat.le_of_ble_eq_true rfl) (Nat.le_of_ble_eq_true rfl) ?_
  have hP := hP.kept (H1 := H1) (fun k q hk => hk1 q.1 (hP k q hk).lt (fun h => h))
  clear hz1 hk1 hB ht hvm t
  generalize H1 = H at hP hS ⊢
  have hP : va_P (dC, dI) vwCl [(b0, .inr (1, [.ref b1, .ref b2, .int (nI ltk), .int (nI lgv), .int lhc, .int lew, .int lsl, .int lsh, .ref b3, .ref b4, .ref b5, .ref b6])), (b1, .inl (kb1, 24, .inl pr)), (b2, .inl (kb2, 24, .inl lr)), (b3, .inl (kb3, 1525, .inl tb)), (b4, .inl (kb4, 25, .inl hi)), (b5, .inl (kb5, 24, .inl by_)), (b6, .inl (kb6, 24, .inl se))] H := hP
  clear hw
  refine lv_aload_n hx hb dX1_slope_8 rfl (lv_at hl 0 rfl) ?_
  refine lv_iload_n hx hb dX1_slope_9 rfl (lv_at hl 1 rfl) ?_
  refine lv_iload_n hx hb dX1_slope_10 rfl (lv_at hl 2 rfl) ?_
  have hPc := hP.sub (ws' := [(b0, .inr (1, [.ref b1, .ref b2, .int (nI ltk), .int (nI lgv), .int lhc, .int lew, .int lsl, .int lsh, .ref b3, .ref b4, .ref b5, .ref b6])), (b1, .inl (kb1, 24, .inl pr)), (b2, .inl (kb2, 24, .inl lr)), (b3, .inl (kb3, 1525, .inl tb)), (b4, .inl (kb4, 25, .inl hi)), (b5, .inl (kb5, 24, .inl by_)), (b6, .inl (kb6, 24, .inl se))]) [0, 1, 2, 3, 4, 5, 6] rfl
  have hKc := hK.sub (tys' := [(kb1, .int), (kb2, .int), (kb3, .int), (kb4, .int), (kb5, .int), (kb6, .int)]) [0, 1, 2, 3, 4, 5] rfl
  refine va_calli (va_runV (As := [.int (nI h), .int (nI x)]) (rest := [.int r_1]) ⟨hx, hb, hml, hown, hts⟩ (c_X1_most l dC dI b0 b1 b2 b3 b4 b5 b6 kb1 kb2 kb3 kb4 kb5 kb6 ltk lgv lhc lew lsl lsh pr lr tb hi by_ se h x (by first | assumption | omega) (by first | assumption | omega) (by first | assumption | omega) (by first | assumption | omega) (by first | assumption | omega) (by first | assumption | omega) (by first | assumption | omega) (by first | assumption | omega)) (cwV 2 hts gX1_slope_X1_most rfl rfl rfl (by decide +kernel) ⟨Nat.le_of_ble_eq_true rfl, Nat.le_of_ble_eq_true rfl⟩) ⟨fun a U g mk q => by obtain ⟨q0, qP, qK⟩ := q; exact ⟨q0, qP, va_K.moved (u := U) (U := U.calling g mk a) (Vm.Alike.refl U.vm) qK⟩, va_recv hKc hPc (ci := 1) (q0 := 0) rfl rfl, fun U hU hW => ⟨rfl, by rw [hU]; exact hPc, va_K.moved hW.alike hKc⟩⟩ rfl rfl hl.1 rfl (lv_room (Nat.le_of_ble_eq_true rfl)) dX1_slope_11 ⟨Nat.le_of_ble_eq_true rfl, Nat.le_of_ble_eq_true rfl⟩) hS (fun q _ h => h.elim) (fun q h => h.elim) (fun r_2 u t H1 locs ht hvm hw hB hz1 hk1 hS => ?_)
  refine W.widen (k := 0) (n := 0) (Nat.le_of_ble_eq_true rfl) (Nat.le_of_ble_eq_true rfl) ?_
  have hP := hP.kept (H1 := H1) (fun k q hk => hk1 q.1 (hP k q hk).lt (fun h => h))
  clear hz1 hk1 hB ht hvm t
  generalize H1 = H at hP hS ⊢
  have hP : va_P (dC, dI) vwCl [(b0, .inr (1, [.ref b1, .ref b2, .int (nI ltk), .int (nI lgv), .int lhc, .int lew, .int lsl, .int lsh, .ref b3, .ref b4, .ref b5, .ref b6])), (b1, .inl (kb1, 24, .inl pr)), (b2, .inl (kb2, 24, .inl lr)), (b3, .inl (kb3, 1525, .inl tb)), (b4, .inl (kb4, 25, .inl hi)), (b5, .inl (kb5, 24, .inl by_)), (b6, .inl (kb6, 24, .inl se))] H := hP
  clear hw
  refine lv_isub hx hb dX1_slope_14 ?_
  refine tp_any (fun y_3 => ?_)
  subst hQe
  exact W.iret (v := y_3) hx hb hr (fun t ht hW => ⟨⟨_, (), rfl, trivial, trivial⟩, hS.F ht⟩) hS.2.2 dX1_slope_15
set_option maxHeartbeats 4000000 in
set_option maxRecDepth 100000 in
theorem c_X1_leastNotAbove (l : Launch) (dC : Nat → ClassId) (dI : Nat → Nat → Nat) (b0 b1 b2 b3 b4 b5 b6 : Nat) (kb1 kb2 kb3 kb4 kb5 kb6 : ClassId) (ltk : Nat) (lgv : Nat) (lhc : Int32) (lew : Int32) (lsl : Int32) (lsh : Int32) (pr : Nat → Int32) (lr : Nat → Int32) (tb : Nat → Int32) (hi : Nat → Int32) (by_ : Nat → Int32) (se : Nat → Int32) (h : Nat) (fr : Nat) (cap : Nat) (bo : Int32) (i0 : ltk ≤ 9) (i1 : lgv ≤ 9) (i2 : bdA 60 24 lr) (i3 : bdA 60 25 hi) (i4 : bdA 60 24 by_) (i5 : bdA 60 24 se) (g0 : h ≤ 24) (g1 : fr ≤ 60) (g2 : cap ≤ 60) : Met l yX1_leastNotAbove wsX1_leastNotAbove ({ frames := 2, cells := 0, slots := 0, locals := 44 }) (va_Pc [.ref b0, .int (nI h), .int (nI fr), .int (nI cap), .int bo] (fun U => va_P (dC, dI) vwCl [(b0, .inr (1, [.ref b1, .ref b2, .int (nI ltk), .int (nI lgv), .int lhc, .int lew, .int lsl, .int lsh, .ref b3, .ref b4, .ref b5, .ref b6])), (b1, .inl (kb1, 24, .inl pr)), (b2, .inl (kb2, 24, .inl lr)), (b3, .inl (kb3, 1525, .inl tb)), (b4, .inl (kb4, 25, .inl hi)), (b5, .inl (kb5, 24, .inl by_)), (b6, .inl (kb6, 24, .inl se))] U.heap ∧ va_K (dC, dI) vwCl [(kb1, .int), (kb2, .int), (kb3, .int), (kb4, .int), (kb5, .int), (kb6, .int)] U)) (va_Qi (fun r (_ : Unit) => bd 60 r) (fun _ _ => True) (fun _ => False)) 0 0 (fun _ => False) := by
  refine Met.ofW (cc := cX1_leastNotAbove) (maxL := 6) (ret := (some .int)) (by decide) rfl ?_
  intro p e s m args below meth c s₁ B hml hv
  obtain ⟨rfl, hP, hK⟩ := hv
  have hx := B.exec
  have hb := B.bytes
  have hr := B.returns
  have hts := atoms_spec (ws := wsX1_leastNotAbove) B.pre
  have hown : s.vm.findClass RX1 = some m.cls := findClass_of_methodNamed B.named
  have hlocks := B.notSynchronized
  have inX1 : ∀ w ∈ wsX10, w ∈ wsX1_leastNotAbove := fun _ h => List.mem_cons_of_mem _ (List.mem_append_right _ h)
  have hS : va_S (fun _ => False) s.heap s.heap [] := va_S.rf
  have hl := lv_entry ([.ref b0, .int (nI h), .int (nI fr), .int (nI cap), .int bo]) (n := 6) (Nat.le_of_ble_eq_true rfl)
  rw [lg_entry_eq]
  generalize (lg_sl ([.ref b0, .int (nI h), .int (nI fr), .int (nI cap), .int bo]) ++ List.replicate (6 - (lg_sl ([.ref b0, .int (nI h), .int (nI fr), .int (nI cap), .int bo])).length) Slot.unset).toArray = ls at hl ⊢
  generalize hQe : MQ below _ _ s 0 0 _ = Q
  generalize ([.ref b0, .int (nI h), .int (nI fr), .int (nI cap), .int bo] : List Value).toArray = args at hts hQe ⊢
  have hl : lv_has ls 6 [(0, .ref b0), (1, .int (nI h)), (2, .int (nI fr)), (3, .int (nI cap)), (4, .int bo)] := hl
  refine lv_iload_n hx hb dX1_leastNotAbove_0 rfl (lv_at hl 2 rfl) ?_
  refine lv_istore (lv' := [(5, .int (nI fr)), (0, .ref b0), (1, .int (nI h)), (2, .int (nI fr)), (3, .int (nI cap)), (4, .int bo)]) hx hb dX1_leastNotAbove_1 hl (by decide) rfl (fun ls hl => ?_)
  have L3 : ∀ (n : Nat) (y : Nat) (H : Heap) (locs : List Loc) (ls : Array Slot), y ≤ 60 → 60 - y < n → va_P (dC, dI) vwCl [(b0, .inr (1, [.ref b1, .ref b2, .int (nI ltk), .int (nI lgv), .int lhc, .int lew, .int lsl, .int lsh, .ref b3, .ref b4, .ref b5, .ref b6])), (b1, .inl (kb1, 24, .inl pr)), (b2, .inl (kb2, 24, .inl lr)), (b3, .inl (kb3, 1525, .inl tb)), (b4, .inl (kb4, 25, .inl hi)), (b5, .inl (kb5, 24, .inl by_)), (b6, .inl (kb6, 24, .inl se))] H → va_S (fun _ => False) s.heap H locs → lv_has ls 6 [(0, .ref b0), (1, .int (nI h)), (3, .int (nI cap)), (4, .int bo), (5, .int (nI y))] → W p l e (headSpec wsX1_leastNotAbove { frames := 2, cells := 0, slots := 0, locals := 44 }).room s m args below meth c H locs 0 0 Q (F0 m 3 ls []) := by
    intro n
    induction n with
    | zero => intro y H locs ls hL3_0 hn; exact absurd hn (Nat.not_lt_zero _)
    | succ n ih =>
      intro y H locs ls hL3_0 hn hP hS hl
      refine lv_iload hx hb dX1_leastNotAbove_3 (lv_at hl 4 rfl) ?_
      refine lv_iload_n hx hb dX1_leastNotAbove_5 rfl (lv_at hl 2 rfl) ?_
      refine lv_icmp_ge (tgt := 27) hx hb dX1_leastNotAbove_6 (by decide) (fun c_6 => ?_) (fun c_6 => ?_)
      · have c_6 := (nI_leI (by omega : cap < 2 ^ 31) (by omega : y < 2 ^ 31)).mp c_6
        refine lv_iload hx hb dX1_leastNotAbove_27 (lv_at hl 4 rfl) ?_
        subst hQe
        exact W.iret (v := (nI y)) hx hb hr (fun t ht hW => ⟨⟨_, (), rfl, ⟨_, by omega, rfl⟩, trivial⟩, hS.F ht⟩) hS.2.2 dX1_leastNotAbove_29
      · have c_6 := (not_congr (nI_leI (by omega : cap < 2 ^ 31) (by omega : y < 2 ^ 31))).mp c_6
        refine lv_aload_n hx hb dX1_leastNotAbove_9 rfl (lv_at hl 0 rfl) ?_
        refine lv_iload_n hx hb dX1_leastNotAbove_10 rfl (lv_at hl 1 rfl) ?_
        refine lv_iload hx hb dX1_leastNotAbove_11 (lv_at hl 4 rfl) ?_
        have hPc := hP.sub (ws' := [(b0, .inr (1, [.ref b1, .ref b2, .int (nI ltk), .int (nI lgv), .int lhc, .int lew, .int lsl, .int lsh, .ref b3, .ref b4, .ref b5, .ref b6])), (b1, .inl (kb1, 24, .inl pr)), (b2, .inl (kb2, 24, .inl lr)), (b3, .inl (kb3, 1525, .inl tb)), (b4, .inl (kb4, 25, .inl hi)), (b5, .inl (kb5, 24, .inl by_)), (b6, .inl (kb6, 24, .inl se))]) [0, 1, 2, 3, 4, 5, 6] rfl
        have hKc := hK.sub (tys' := [(kb1, .int), (kb2, .int), (kb3, .int), (kb4, .int), (kb5, .int), (kb6, .int)]) [0, 1, 2, 3, 4, 5] rfl
        refine va_calli (va_runV (As := [.int (nI h), .int (nI y)]) (rest := []) ⟨hx, hb, hml, hown, hts⟩ (c_X1_slope l dC dI b0 b1 b2 b3 b4 b5 b6 kb1 kb2 kb3 kb4 kb5 kb6 ltk lgv lhc lew lsl lsh pr lr tb hi by_ se h y (by first | assumption | omega) (by first | assumption | omega) (by first | assumption | omega) (by first | assumption | omega) (by first | assumption | omega) (by first | assumption | omega) (by first | assumption | omega) (by first | assumption | omega)) (cwV 2 hts gX1_leastNotAbove_X1_slope rfl rfl rfl (by decide +kernel) ⟨Nat.le_of_ble_eq_true rfl, Nat.le_of_ble_eq_true rfl⟩) ⟨fun a U g mk q => by obtain ⟨q0, qP, qK⟩ := q; exact ⟨q0, qP, va_K.moved (u := U) (U := U.calling g mk a) (Vm.Alike.refl U.vm) qK⟩, va_recv hKc hPc (ci := 1) (q0 := 0) rfl rfl, fun U hU hW => ⟨rfl, by rw [hU]; exact hPc, va_K.moved hW.alike hKc⟩⟩ rfl rfl hl.1 rfl (lv_room (Nat.le_of_ble_eq_true rfl)) dX1_leastNotAbove_13 ⟨Nat.le_of_ble_eq_true rfl, Nat.le_of_ble_eq_true rfl⟩) hS (fun q _ h => h.elim) (fun q h => h.elim) (fun r_1 u t H1 locs ht hvm hw hB hz1 hk1 hS => ?_)
        refine W.widen (k := 0) (n := 0) (Nat.le_of_ble_eq_true rfl) (Nat.le_of_ble_eq_true rfl) ?_
        have hP := hP.kept (H1 := H1) (fun k q hk => hk1 q.1 (hP k q hk).lt (fun h => h))
        clear hz1 hk1 hB ht hvm t
        generalize H1 = H at hP hS ⊢
        have hP : va_P (dC, dI) vwCl [(b0, .inr (1, [.ref b1, .ref b2, .int (nI ltk), .int (nI lgv), .int lhc, .int lew, .int lsl, .int lsh, .ref b3, .ref b4, .ref b5, .ref b6])), (b1, .inl (kb1, 24, .inl pr)), (b2, .inl (kb2, 24, .inl lr)), (b3, .inl (kb3, 1525, .inl tb)), (b4, .inl (kb4, 25, .inl hi)), (b5, .inl (kb5, 24, .inl by_)), (b6, .inl (kb6, 24, .inl se))] H := hP
        clear hw
        refine lv_iload hx hb dX1_leastNotAbove_16 (lv_at hl 3 rfl) ?_
        refine lv_icmp_le (tgt := 27) hx hb dX1_leastNotAbove_18 (by decide) (fun c_18 => ?_) (fun c_18 => ?_)
        · refine lv_iload hx hb dX1_leastNotAbove_27 (lv_at hl 4 rfl) ?_
          subst hQe
          exact W.iret (v := (nI y)) hx hb hr (fun t ht hW => ⟨⟨_, (), rfl, ⟨_, by omega, rfl⟩, trivial⟩, hS.F ht⟩) hS.2.2 dX1_leastNotAbove_29
        · refine lv_iinc (v := nI (y + 1)) (lv' := [(5, .int (nI (y + 1))), (0, .ref b0), (1, .int (nI h)), (3, .int (nI cap)), (4, .int bo)]) hx hb dX1_leastNotAbove_21 hl (k := 4) rfl (inc_n y 1) (by decide) rfl (fun ls hl => ?_)
          refine lv_goto (tgt := 3) hx hb dX1_leastNotAbove_24 (by decide) ?_
          exact ih (y + 1) _ _ _ (by first | assumption | omega) (by omega) hP hS (lv_sub hl [1, 2, 3, 4, 0] rfl)
  exact L3 (60 - fr + 1) fr _ _ _ (by first | assumption | omega) (Nat.lt_succ_self _) hP hS (lv_sub hl [1, 2, 4, 5, 0] rfl)
set_option maxHeartbeats 4000000 in
set_option maxRecDepth 100000 in
theorem c_X1_takesIn (l : Launch) (dC : Nat → ClassId) (dI : Nat → Nat → Nat) (b0 b1 b2 b3 b4 b5 b6 : Nat) (kb1 kb2 kb3 kb4 kb5 kb6 : ClassId) (ltk : Nat) (lgv : Nat) (lhc : Int32) (lew : Int32) (lsl : Int32) (lsh : Int32) (pr : Nat → Int32) (lr : Nat → Int32) (tb : Nat → Int32) (hi : Nat → Int32) (by_ : Nat → Int32) (se : Nat → Int32) (h : Int32) (i0 : ltk ≤ 9) (i1 : lgv ≤ 9) (i2 : bdA 60 24 lr) (i3 : bdA 60 25 hi) (i4 : bdA 60 24 by_) (i5 : bdA 60 24 se) : Met l yX1_takesIn wsX1_takesIn ({ frames := 0, cells := 0, slots := 0, locals := 0 }) (va_Pc [.ref b0, .int h] (fun U => va_P (dC, dI) vwCl [(b0, .inr (1, [.ref b1, .ref b2, .int (nI ltk), .int (nI lgv), .int lhc, .int lew, .int lsl, .int lsh, .ref b3, .ref b4, .ref b5, .ref b6])), (b1, .inl (kb1, 24, .inl pr)), (b2, .inl (kb2, 24, .inl lr)), (b3, .inl (kb3, 1525, .inl tb)), (b4, .inl (kb4, 25, .inl hi)), (b5, .inl (kb5, 24, .inl by_)), (b6, .inl (kb6, 24, .inl se))] U.heap ∧ va_K (dC, dI) vwCl [(kb1, .int), (kb2, .int), (kb3, .int), (kb4, .int), (kb5, .int), (kb6, .int)] U)) (va_Qi (fun r (_ : Unit) => bd 9 r) (fun _ _ => True) (fun _ => False)) 0 0 (fun _ => False) := by
  refine Met.ofW (cc := cX1_takesIn) (maxL := 2) (ret := (some .int)) (by decide) rfl ?_
  intro p e s m args below meth c s₁ B hml hv
  obtain ⟨rfl, hP, hK⟩ := hv
  have hx := B.exec
  have hb := B.bytes
  have hr := B.returns
  have hts := atoms_spec (ws := wsX1_takesIn) B.pre
  have hown : s.vm.findClass RX1 = some m.cls := findClass_of_methodNamed B.named
  have hlocks := B.notSynchronized
  have inX1 : ∀ w ∈ wsX10, w ∈ wsX1_takesIn := fun _ h => List.mem_cons_of_mem _ (List.mem_append_right _ h)
  have hS : va_S (fun _ => False) s.heap s.heap [] := va_S.rf
  have hl := lv_entry ([.ref b0, .int h]) (n := 2) (Nat.le_of_ble_eq_true rfl)
  rw [lg_entry_eq]
  generalize (lg_sl ([.ref b0, .int h]) ++ List.replicate (2 - (lg_sl ([.ref b0, .int h])).length) Slot.unset).toArray = ls at hl ⊢
  generalize hQe : MQ below _ _ s 0 0 _ = Q
  generalize ([.ref b0, .int h] : List Value).toArray = args at hts hQe ⊢
  have hl : lv_has ls 2 [(0, .ref b0), (1, .int h)] := hl
  refine lv_iload_n hx hb dX1_takesIn_0 rfl (lv_at hl 1 rfl) ?_
  refine lv_aload_n hx hb dX1_takesIn_1 rfl (lv_at hl 0 rfl) ?_
  refine va_get (D := (dC, dI)) (ci := 1) (v := .int lsh) (C := RX1) (T := TX1) (N := 12) hx hb hts inX1 hown hK hP 0 rfl rfl 7 (by decide) (hts (.fieldLink RX1 53 "StoreSlopes$Slopes" "shutHour" "I") (List.mem_of_getElem? (i := 1) rfl)) (fun _ h9 => h9) rfl dX1_takesIn_2 ?_
  refine lv_icmp_ne (tgt := 12) hx hb dX1_takesIn_5 (by decide) (fun c_5 => ?_) (fun c_5 => ?_)
  · refine lv_aload_n hx hb dX1_takesIn_12 rfl (lv_at hl 0 rfl) ?_
    refine va_get (D := (dC, dI)) (ci := 1) (v := .int (nI ltk)) (C := RX1) (T := TX1) (N := 12) hx hb hts inX1 hown hK hP 0 rfl rfl 2 (by decide) (hts (.fieldLink RX1 36 "StoreSlopes$Slopes" "takes" "I") (List.mem_of_getElem? (i := 2) rfl)) (fun _ h9 => h9) rfl dX1_takesIn_13 ?_
    subst hQe
    exact W.iret (v := (nI ltk)) hx hb hr (fun t ht hW => ⟨⟨_, (), rfl, ⟨_, by omega, rfl⟩, trivial⟩, hS.F ht⟩) hS.2.2 dX1_takesIn_16
  · refine lv_iconst (v := nI 0) hx hb dX1_takesIn_8 (by decide) ?_
    refine lv_goto (tgt := 16) hx hb dX1_takesIn_9 (by decide) ?_
    subst hQe
    exact W.iret (v := (nI 0)) hx hb hr (fun t ht hW => ⟨⟨_, (), rfl, ⟨_, by omega, rfl⟩, trivial⟩, hS.F ht⟩) hS.2.2 dX1_takesIn_16
set_option maxHeartbeats 4000000 in
set_option maxRecDepth 100000 in
theorem c_X1_givesIn (l : Launch) (dC : Nat → ClassId) (dI : Nat → Nat → Nat) (b0 b1 b2 b3 b4 b5 b6 : Nat) (kb1 kb2 kb3 kb4 kb5 kb6 : ClassId) (ltk : Nat) (lgv : Nat) (lhc : Int32) (lew : Int32) (lsl : Int32) (lsh : Int32) (pr : Nat → Int32) (lr : Nat → Int32) (tb : Nat → Int32) (hi : Nat → Int32) (by_ : Nat → Int32) (se : Nat → Int32) (h : Int32) (i0 : ltk ≤ 9) (i1 : lgv ≤ 9) (i2 : bdA 60 24 lr) (i3 : bdA 60 25 hi) (i4 : bdA 60 24 by_) (i5 : bdA 60 24 se) : Met l yX1_givesIn wsX1_givesIn ({ frames := 0, cells := 0, slots := 0, locals := 0 }) (va_Pc [.ref b0, .int h] (fun U => va_P (dC, dI) vwCl [(b0, .inr (1, [.ref b1, .ref b2, .int (nI ltk), .int (nI lgv), .int lhc, .int lew, .int lsl, .int lsh, .ref b3, .ref b4, .ref b5, .ref b6])), (b1, .inl (kb1, 24, .inl pr)), (b2, .inl (kb2, 24, .inl lr)), (b3, .inl (kb3, 1525, .inl tb)), (b4, .inl (kb4, 25, .inl hi)), (b5, .inl (kb5, 24, .inl by_)), (b6, .inl (kb6, 24, .inl se))] U.heap ∧ va_K (dC, dI) vwCl [(kb1, .int), (kb2, .int), (kb3, .int), (kb4, .int), (kb5, .int), (kb6, .int)] U)) (va_Qi (fun r (_ : Unit) => bd 9 r) (fun _ _ => True) (fun _ => False)) 0 0 (fun _ => False) := by
  refine Met.ofW (cc := cX1_givesIn) (maxL := 2) (ret := (some .int)) (by decide) rfl ?_
  intro p e s m args below meth c s₁ B hml hv
  obtain ⟨rfl, hP, hK⟩ := hv
  have hx := B.exec
  have hb := B.bytes
  have hr := B.returns
  have hts := atoms_spec (ws := wsX1_givesIn) B.pre
  have hown : s.vm.findClass RX1 = some m.cls := findClass_of_methodNamed B.named
  have hlocks := B.notSynchronized
  have inX1 : ∀ w ∈ wsX10, w ∈ wsX1_givesIn := fun _ h => List.mem_cons_of_mem _ (List.mem_append_right _ h)
  have hS : va_S (fun _ => False) s.heap s.heap [] := va_S.rf
  have hl := lv_entry ([.ref b0, .int h]) (n := 2) (Nat.le_of_ble_eq_true rfl)
  rw [lg_entry_eq]
  generalize (lg_sl ([.ref b0, .int h]) ++ List.replicate (2 - (lg_sl ([.ref b0, .int h])).length) Slot.unset).toArray = ls at hl ⊢
  generalize hQe : MQ below _ _ s 0 0 _ = Q
  generalize ([.ref b0, .int h] : List Value).toArray = args at hts hQe ⊢
  have hl : lv_has ls 2 [(0, .ref b0), (1, .int h)] := hl
  refine lv_iload_n hx hb dX1_givesIn_0 rfl (lv_at hl 1 rfl) ?_
  refine lv_aload_n hx hb dX1_givesIn_1 rfl (lv_at hl 0 rfl) ?_
  refine va_get (D := (dC, dI)) (ci := 1) (v := .int lsh) (C := RX1) (T := TX1) (N := 12) hx hb hts inX1 hown hK hP 0 rfl rfl 7 (by decide) (hts (.fieldLink RX1 53 "StoreSlopes$Slopes" "shutHour" "I") (List.mem_of_getElem? (i := 1) rfl)) (fun _ h9 => h9) rfl dX1_givesIn_2 ?_
  refine lv_icmp_ne (tgt := 12) hx hb dX1_givesIn_5 (by decide) (fun c_5 => ?_) (fun c_5 => ?_)
  · refine lv_aload_n hx hb dX1_givesIn_12 rfl (lv_at hl 0 rfl) ?_
    refine va_get (D := (dC, dI)) (ci := 1) (v := .int (nI lgv)) (C := RX1) (T := TX1) (N := 12) hx hb hts inX1 hown hK hP 0 rfl rfl 3 (by decide) (hts (.fieldLink RX1 40 "StoreSlopes$Slopes" "gives" "I") (List.mem_of_getElem? (i := 2) rfl)) (fun _ h9 => h9) rfl dX1_givesIn_13 ?_
    subst hQe
    exact W.iret (v := (nI lgv)) hx hb hr (fun t ht hW => ⟨⟨_, (), rfl, ⟨_, by omega, rfl⟩, trivial⟩, hS.F ht⟩) hS.2.2 dX1_givesIn_16
  · refine lv_iconst (v := nI 0) hx hb dX1_givesIn_8 (by decide) ?_
    refine lv_goto (tgt := 16) hx hb dX1_givesIn_9 (by decide) ?_
    subst hQe
    exact W.iret (v := (nI 0)) hx hb hr (fun t ht hW => ⟨⟨_, (), rfl, ⟨_, by omega, rfl⟩, trivial⟩, hS.F ht⟩) hS.2.2 dX1_givesIn_16
set_option maxHeartbeats 4000000 in
set_option maxRecDepth 100000 in
theorem c_X1_next (l : Launch) (dC : Nat → ClassId) (dI : Nat → Nat → Nat) (b0 b1 b2 b3 b4 b5 b6 : Nat) (kb1 kb2 kb3 kb4 kb5 kb6 : ClassId) (ltk : Nat) (lgv : Nat) (lhc : Int32) (lew : Int32) (lsl : Int32) (lsh : Int32) (pr : Nat → Int32) (lr : Nat → Int32) (tb : Nat → Int32) (hi : Nat → Int32) (by_ : Nat → Int32) (se : Nat → Int32) (h : Nat) (x : Nat) (i0 : ltk ≤ 9) (i1 : lgv ≤ 9) (i2 : bdA 60 24 lr) (i3 : bdA 60 25 hi) (i4 : bdA 60 24 by_) (i5 : bdA 60 24 se) (g0 : h < 24) (g1 : x ≤ 60) : Met l yX1_next wsX1_next ({ frames := 1, cells := 0, slots := 0, locals := 21 }) (va_Pc [.ref b0, .int (nI h), .int (nI x)] (fun U => va_P (dC, dI) vwCl [(b0, .inr (1, [.ref b1, .ref b2, .int (nI ltk), .int (nI lgv), .int lhc, .int lew, .int lsl, .int lsh, .ref b3, .ref b4, .ref b5, .ref b6])), (b1, .inl (kb1, 24, .inl pr)), (b2, .inl (kb2, 24, .inl lr)), (b3, .inl (kb3, 1525, .inl tb)), (b4, .inl (kb4, 25, .inl hi)), (b5, .inl (kb5, 24, .inl by_)), (b6, .inl (kb6, 24, .inl se))] U.heap ∧ va_K (dC, dI) vwCl [(kb1, .int), (kb2, .int), (kb3, .int), (kb4, .int), (kb5, .int), (kb6, .int)] U)) (va_Qi (fun r (_ : Unit) => bd 60 r) (fun _ _ => True) (fun _ => False)) 0 0 (fun _ => False) := by
  refine Met.ofW (cc := cX1_next) (maxL := 3) (ret := (some .int)) (by decide) rfl ?_
  intro p e s m args below meth c s₁ B hml hv
  obtain ⟨rfl, hP, hK⟩ := hv
  have hx := B.exec
  have hb := B.bytes
  have hr := B.returns
  have hts := atoms_spec (ws := wsX1_next) B.pre
  have hown : s.vm.findClass RX1 = some m.cls := findClass_of_methodNamed B.named
  have hlocks := B.notSynchronized
  have inX1 : ∀ w ∈ wsX10, w ∈ wsX1_next := fun _ h => List.mem_cons_of_mem _ (List.mem_append_right _ h)
  have hS : va_S (fun _ => False) s.heap s.heap [] := va_S.rf
  have hl := lv_entry ([.ref b0, .int (nI h), .int (nI x)]) (n := 3) (Nat.le_of_ble_eq_true rfl)
  rw [lg_entry_eq]
  generalize (lg_sl ([.ref b0, .int (nI h), .int (nI x)]) ++ List.replicate (3 - (lg_sl ([.ref b0, .int (nI h), .int (nI x)])).length) Slot.unset).toArray = ls at hl ⊢
  generalize hQe : MQ below _ _ s 0 0 _ = Q
  generalize ([.ref b0, .int (nI h), .int (nI x)] : List Value).toArray = args at hts hQe ⊢
  have hl : lv_has ls 3 [(0, .ref b0), (1, .int (nI h)), (2, .int (nI x))] := hl
  refine lv_iload_n hx hb dX1_next_0 rfl (lv_at hl 2 rfl) ?_
  refine lv_aload_n hx hb dX1_next_1 rfl (lv_at hl 0 rfl) ?_
  refine va_get (D := (dC, dI)) (ci := 1) (v := .ref b5) (C := RX1) (T := TX1) (N := 12) hx hb hts inX1 hown hK hP 0 rfl rfl 10 (by decide) (hts (.fieldLink RX1 24 "StoreSlopes$Slopes" "buyTo" "[I") (List.mem_of_getElem? (i := 1) rfl)) (fun _ h9 => h9) rfl dX1_next_2 ?_
  refine lv_iload_n hx hb dX1_next_5 rfl (lv_at hl 1 rfl) ?_
  refine va_iald hx hb hK hP 5 4 rfl rfl (vp_in_nI (show h < 24 by omega) (by omega)) dX1_next_6 ?_
  obtain ⟨j_1, hj_1, ej_1⟩ := bdA_get (n := 60) (N := 24) (f := by_) (by assumption) (show h < 24 by omega) (by omega)
  refine tp_as ej_1 ?_
  refine lv_icmp_ge (tgt := 27) hx hb dX1_next_7 (by decide) (fun c_7 => ?_) (fun c_7 => ?_)
  · have c_7 := (nI_leI (by omega : j_1 < 2 ^ 31) (by omega : x < 2 ^ 31)).mp c_7
    refine lv_iload_n hx hb dX1_next_27 rfl (lv_at hl 2 rfl) ?_
    refine lv_aload_n hx hb dX1_next_28 rfl (lv_at hl 0 rfl) ?_
    refine va_get (D := (dC, dI)) (ci := 1) (v := .ref b6) (C := RX1) (T := TX1) (N := 12) hx hb hts inX1 hown hK hP 0 rfl rfl 11 (by decide) (hts (.fieldLink RX1 27 "StoreSlopes$Slopes" "sellTo" "[I") (List.mem_of_getElem? (i := 6) rfl)) (fun _ h9 => h9) rfl dX1_next_29 ?_
    refine lv_iload_n hx hb dX1_next_32 rfl (lv_at hl 1 rfl) ?_
    refine va_iald hx hb hK hP 6 5 rfl rfl (vp_in_nI (show h < 24 by omega) (by omega)) dX1_next_33 ?_
    obtain ⟨j_2, hj_2, ej_2⟩ := bdA_get (n := 60) (N := 24) (f := se) (by assumption) (show h < 24 by omega) (by omega)
    refine tp_as ej_2 ?_
    refine lv_icmp_le (tgt := 54) hx hb dX1_next_34 (by decide) (fun c_34 => ?_) (fun c_34 => ?_)
    · have c_34 := (nI_leI (by omega : x < 2 ^ 31) (by omega : j_2 < 2 ^ 31)).mp c_34
      refine lv_iload_n hx hb dX1_next_54 rfl (lv_at hl 2 rfl) ?_
      subst hQe
      exact W.iret (v := (nI x)) hx hb hr (fun t ht hW => ⟨⟨_, (), rfl, ⟨_, by omega, rfl⟩, trivial⟩, hS.F ht⟩) hS.2.2 dX1_next_55
    · have c_34 := (not_congr (nI_leI (by omega : x < 2 ^ 31) (by omega : j_2 < 2 ^ 31))).mp c_34
      refine lv_aload_n hx hb dX1_next_37 rfl (lv_at hl 0 rfl) ?_
      refine va_get (D := (dC, dI)) (ci := 1) (v := .ref b6) (C := RX1) (T := TX1) (N := 12) hx hb hts inX1 hown hK hP 0 rfl rfl 11 (by decide) (hts (.fieldLink RX1 27 "StoreSlopes$Slopes" "sellTo" "[I") (List.mem_of_getElem? (i := 6) rfl)) (fun _ h9 => h9) rfl dX1_next_38 ?_
      refine lv_iload_n hx hb dX1_next_41 rfl (lv_at hl 1 rfl) ?_
      refine va_iald hx hb hK hP 6 5 rfl rfl (vp_in_nI (show h < 24 by omega) (by omega)) dX1_next_42 ?_
      obtain ⟨j_3, hj_3, ej_3⟩ := bdA_get (n := 60) (N := 24) (f := se) (by assumption) (show h < 24 by omega) (by omega)
      refine tp_as ej_3 ?_
      refine lv_iload_n hx hb dX1_next_43 rfl (lv_at hl 2 rfl) ?_
      refine lv_aload_n hx hb dX1_next_44 rfl (lv_at hl 0 rfl) ?_
      refine lv_iload_n hx hb dX1_next_45 rfl (lv_at hl 1 rfl) ?_
      have hPc := hP.sub (ws' := [(b0, .inr (1, [.ref b1, .ref b2, .int (nI ltk), .int (nI lgv), .int lhc, .int lew, .int lsl, .int lsh, .ref b3, .ref b4, .ref b5, .ref b6])), (b1, .inl (kb1, 24, .inl pr)), (b2, .inl (kb2, 24, .inl lr)), (b3, .inl (kb3, 1525, .inl tb)), (b4, .inl (kb4, 25, .inl hi)), (b5, .inl (kb5, 24, .inl by_)), (b6, .inl (kb6, 24, .inl se))]) [0, 1, 2, 3, 4, 5, 6] rfl
      have hKc := hK.sub (tys' := [(kb1, .int), (kb2, .int), (kb3, .int), (kb4, .int), (kb5, .int), (kb6, .int)]) [0, 1, 2, 3, 4, 5] rfl
      refine va_calli (va_runV (As := [.int (nI h)]) (rest := [.int (nI x), .int (nI j_3)]) ⟨hx, hb, hml, hown, hts⟩ (c_X1_givesIn l dC dI b0 b1 b2 b3 b4 b5 b6 kb1 kb2 kb3 kb4 kb5 kb6 ltk lgv lhc lew lsl lsh pr lr tb hi by_ se (nI h) (by first | assumption | omega) (by first | assumption | omega) (by first | assumption | omega) (by first | assumption | omega) (by first | assumption | omega) (by first | assumption | omega) ) (cwV 1 hts gX1_next_X1_givesIn rfl rfl rfl (by decide +kernel) ⟨Nat.le_of_ble_eq_true rfl, Nat.le_of_ble_eq_true rfl⟩) ⟨fun a U g mk q => by obtain ⟨q0, qP, qK⟩ := q; exact ⟨q0, qP, va_K.moved (u := U) (U := U.calling g mk a) (Vm.Alike.refl U.vm) qK⟩, va_recv hKc hPc (ci := 1) (q0 := 0) rfl rfl, fun U hU hW => ⟨rfl, by rw [hU]; exact hPc, va_K.moved hW.alike hKc⟩⟩ rfl rfl hl.1 rfl (lv_room (Nat.le_of_ble_eq_true rfl)) dX1_next_46 ⟨Nat.le_of_ble_eq_true rfl, Nat.le_of_ble_eq_true rfl⟩) hS (fun q _ h => h.elim) (fun q h => h.elim) (fun r_4 u t H1 locs ht hvm hw hB hz1 hk1 hS => ?_)
      refine W.widen (k := 0) (n := 0) (Nat.le_of_ble_eq_true rfl) (Nat.le_of_ble_eq_true rfl) ?_
      have hP := hP.kept (H1 := H1) (fun k q hk => hk1 q.1 (hP k q hk).lt (fun h => h))
      clear hz1 hk1 hB ht hvm t
      generalize H1 = H at hP hS ⊢
      have hP : va_P (dC, dI) vwCl [(b0, .inr (1, [.ref b1, .ref b2, .int (nI ltk), .int (nI lgv), .int lhc, .int lew, .int lsl, .int lsh, .ref b3, .ref b4, .ref b5, .ref b6])), (b1, .inl (kb1, 24, .inl pr)), (b2, .inl (kb2, 24, .inl lr)), (b3, .inl (kb3, 1525, .inl tb)), (b4, .inl (kb4, 25, .inl hi)), (b5, .inl (kb5, 24, .inl by_)), (b6, .inl (kb6, 24, .inl se))] H := hP
      obtain ⟨j_5, hj_5, rfl⟩ := hw
      refine lv_isub hx hb dX1_next_49 ?_
      refine va_mmax hx hb (hml.trans hl.1.symm) (own := RX1) hown (hts (.methodLink RX1 70 Lib.Math.max.name) (List.mem_of_getElem? (i := 7) rfl)) (hts (.static Lib.Math.max.name) (List.mem_of_getElem? (i := 8) rfl)) (hts (.initialized "java/lang/Math") (List.mem_of_getElem? (i := 4) rfl)) (hts (.code Lib.Math.max.name Lib.Math.max.code 2 (some .int)) (List.mem_of_getElem? (i := 9) rfl)) (Nat.le_of_ble_eq_true rfl) (Nat.le_of_ble_eq_true rfl) (Nat.le_of_ble_eq_true rfl) (Nat.le_of_ble_eq_true rfl) dX1_next_50 ?_
      refine tp_as (mx_sub (a := j_3) (x := x) (j := j_5) (by omega) (by omega) (by omega)) ?_
      subst hQe
      exact W.iret (v := (nI (max j_3 (x - j_5)))) hx hb hr (fun t ht hW => ⟨⟨_, (), rfl, ⟨_, by omega, rfl⟩, trivial⟩, hS.F ht⟩) hS.2.2 dX1_next_53
  · have c_7 := (not_congr (nI_leI (by omega : j_1 < 2 ^ 31) (by omega : x < 2 ^ 31))).mp c_7
    refine lv_aload_n hx hb dX1_next_10 rfl (lv_at hl 0 rfl) ?_
    refine va_get (D := (dC, dI)) (ci := 1) (v := .ref b5) (C := RX1) (T := TX1) (N := 12) hx hb hts inX1 hown hK hP 0 rfl rfl 10 (by decide) (hts (.fieldLink RX1 24 "StoreSlopes$Slopes" "buyTo" "[I") (List.mem_of_getElem? (i := 1) rfl)) (fun _ h9 => h9) rfl dX1_next_11 ?_
    refine lv_iload_n hx hb dX1_next_14 rfl (lv_at hl 1 rfl) ?_
    refine va_iald hx hb hK hP 5 4 rfl rfl (vp_in_nI (show h < 24 by omega) (by omega)) dX1_next_15 ?_
    obtain ⟨j_6, hj_6, ej_6⟩ := bdA_get (n := 60) (N := 24) (f := by_) (by assumption) (show h < 24 by omega) (by omega)
    refine tp_as ej_6 ?_
    refine lv_iload_n hx hb dX1_next_16 rfl (lv_at hl 2 rfl) ?_
    refine lv_aload_n hx hb dX1_next_17 rfl (lv_at hl 0 rfl) ?_
    refine lv_iload_n hx hb dX1_next_18 rfl (lv_at hl 1 rfl) ?_
    have hPc := hP.sub (ws' := [(b0, .inr (1, [.ref b1, .ref b2, .int (nI ltk), .int (nI lgv), .int lhc, .int lew, .int lsl, .int lsh, .ref b3, .ref b4, .ref b5, .ref b6])), (b1, .inl (kb1, 24, .inl pr)), (b2, .inl (kb2, 24, .inl lr)), (b3, .inl (kb3, 1525, .inl tb)), (b4, .inl (kb4, 25, .inl hi)), (b5, .inl (kb5, 24, .inl by_)), (b6, .inl (kb6, 24, .inl se))]) [0, 1, 2, 3, 4, 5, 6] rfl
    have hKc := hK.sub (tys' := [(kb1, .int), (kb2, .int), (kb3, .int), (kb4, .int), (kb5, .int), (kb6, .int)]) [0, 1, 2, 3, 4, 5] rfl
    refine va_calli (va_runV (As := [.int (nI h)]) (rest := [.int (nI x), .int (nI j_6)]) ⟨hx, hb, hml, hown, hts⟩ (c_X1_takesIn l dC dI b0 b1 b2 b3 b4 b5 b6 kb1 kb2 kb3 kb4 kb5 kb6 ltk lgv lhc lew lsl lsh pr lr tb hi by_ se (nI h) (by first | assumption | omega) (by first | assumption | omega) (by first | assumption | omega) (by first | assumption | omega) (by first | assumption | omega) (by first | assumption | omega) ) (cwV 1 hts gX1_next_X1_takesIn rfl rfl rfl (by decide +kernel) ⟨Nat.le_of_ble_eq_true rfl, Nat.le_of_ble_eq_true rfl⟩) ⟨fun a U g mk q => by obtain ⟨q0, qP, qK⟩ := q; exact ⟨q0, qP, va_K.moved (u := U) (U := U.calling g mk a) (Vm.Alike.refl U.vm) qK⟩, va_recv hKc hPc (ci := 1) (q0 := 0) rfl rfl, fun U hU hW => ⟨rfl, by rw [hU]; exact hPc, va_K.moved hW.alike hKc⟩⟩ rfl rfl hl.1 rfl (lv_room (Nat.le_of_ble_eq_true rfl)) dX1_next_19 ⟨Nat.le_of_ble_eq_true rfl, Nat.le_of_ble_eq_true rfl⟩) hS (fun q _ h => h.elim) (fun q h => h.elim) (fun r_7 u t H1 locs ht hvm hw hB hz1 hk1 hS => ?_)
    refine W.widen (k := 0) (n := 0) (Nat.le_of_ble_eq_true rfl) (Nat.le_of_ble_eq_true rfl) ?_
    have hP := hP.kept (H1 := H1) (fun k q hk => hk1 q.1 (hP k q hk).lt (fun h => h))
    clear hz1 hk1 hB ht hvm t
    generalize H1 = H at hP hS ⊢
    have hP : va_P (dC, dI) vwCl [(b0, .inr (1, [.ref b1, .ref b2, .int (nI ltk), .int (nI lgv), .int lhc, .int lew, .int lsl, .int lsh, .ref b3, .ref b4, .ref b5, .ref b6])), (b1, .inl (kb1, 24, .inl pr)), (b2, .inl (kb2, 24, .inl lr)), (b3, .inl (kb3, 1525, .inl tb)), (b4, .inl (kb4, 25, .inl hi)), (b5, .inl (kb5, 24, .inl by_)), (b6, .inl (kb6, 24, .inl se))] H := hP
    obtain ⟨j_8, hj_8, rfl⟩ := hw
    refine lv_iadd hx hb dX1_next_22 ?_
    refine tp_as (nI_add x j_8) ?_
    refine va_mmin hx hb (hml.trans hl.1.symm) (own := RX1) hown (hts (.methodLink RX1 61 Lib.Math.min.name) (List.mem_of_getElem? (i := 2) rfl)) (hts (.static Lib.Math.min.name) (List.mem_of_getElem? (i := 3) rfl)) (hts (.initialized "java/lang/Math") (List.mem_of_getElem? (i := 4) rfl)) (hts (.code Lib.Math.min.name Lib.Math.min.code 2 (some .int)) (List.mem_of_getElem? (i := 5) rfl)) (Nat.le_of_ble_eq_true rfl) (Nat.le_of_ble_eq_true rfl) (Nat.le_of_ble_eq_true rfl) (Nat.le_of_ble_eq_true rfl) dX1_next_23 ?_
    refine tp_as (mm_min (a := j_6) (b := x + j_8) (by omega) (by omega)) ?_
    subst hQe
    exact W.iret (v := (nI (min j_6 (x + j_8)))) hx hb hr (fun t ht hW => ⟨⟨_, (), rfl, ⟨_, by omega, rfl⟩, trivial⟩, hS.F ht⟩) hS.2.2 dX1_next_26
set_option maxHeartbeats 4000000 in
set_option maxRecDepth 100000 in
theorem c_X1_takings (l : Launch) (dC : Nat → ClassId) (dI : Nat → Nat → Nat) (b0 b1 b2 b3 b4 b5 b6 : Nat) (kb1 kb2 kb3 kb4 kb5 kb6 : ClassId) (ltk : Nat) (lgv : Nat) (lhc : Int32) (lew : Int32) (lsl : Int32) (lsh : Int32) (pr : Nat → Int32) (lr : Nat → Int32) (tb : Nat → Int32) (hi : Nat → Int32) (by_ : Nat → Int32) (se : Nat → Int32) (h : Nat) (x : Int32) (y : Int32) (i0 : ltk ≤ 9) (i1 : lgv ≤ 9) (i2 : bdA 60 24 lr) (i3 : bdA 60 25 hi) (i4 : bdA 60 24 by_) (i5 : bdA 60 24 se) (g0 : h < 24) : Met l yX1_takings wsX1_takings ({ frames := 0, cells := 0, slots := 0, locals := 0 }) (va_Pc [.ref b0, .int (nI h), .int x, .int y] (fun U => va_P (dC, dI) vwCl [(b0, .inr (1, [.ref b1, .ref b2, .int (nI ltk), .int (nI lgv), .int lhc, .int lew, .int lsl, .int lsh, .ref b3, .ref b4, .ref b5, .ref b6])), (b1, .inl (kb1, 24, .inl pr)), (b2, .inl (kb2, 24, .inl lr)), (b3, .inl (kb3, 1525, .inl tb)), (b4, .inl (kb4, 25, .inl hi)), (b5, .inl (kb5, 24, .inl by_)), (b6, .inl (kb6, 24, .inl se))] U.heap ∧ va_K (dC, dI) vwCl [(kb1, .int), (kb2, .int), (kb3, .int), (kb4, .int), (kb5, .int), (kb6, .int)] U)) (va_Qi (fun r (_ : Unit) => True) (fun _ _ => True) (fun _ => False)) 0 0 (fun _ => False) := by
  refine Met.ofW (cc := cX1_takings) (maxL := 5) (ret := (some .int)) (by decide) rfl ?_
  intro p e s m args below meth c s₁ B hml hv
  obtain ⟨rfl, hP, hK⟩ := hv
  have hx := B.exec
  have hb := B.bytes
  have hr := B.returns
  have hts := atoms_spec (ws := wsX1_takings) B.pre
  have hown : s.vm.findClass RX1 = some m.cls := findClass_of_methodNamed B.named
  have hlocks := B.notSynchronized
  have inX1 : ∀ w ∈ wsX10, w ∈ wsX1_takings := fun _ h => List.mem_cons_of_mem _ (List.mem_append_right _ h)
  have hS : va_S (fun _ => False) s.heap s.heap [] := va_S.rf
  have hl := lv_entry ([.ref b0, .int (nI h), .int x, .int y]) (n := 5) (Nat.le_of_ble_eq_true rfl)
  rw [lg_entry_eq]
  generalize (lg_sl ([.ref b0, .int (nI h), .int x, .int y]) ++ List.replicate (5 - (lg_sl ([.ref b0, .int (nI h), .int x, .int y])).length) Slot.unset).toArray = ls at hl ⊢
  generalize hQe : MQ below _ _ s 0 0 _ = Q
  generalize ([.ref b0, .int (nI h), .int x, .int y] : List Value).toArray = args at hts hQe ⊢
  have hl : lv_has ls 5 [(0, .ref b0), (1, .int (nI h)), (2, .int x), (3, .int y)] := hl
  refine lv_iload_n hx hb dX1_takings_0 rfl (lv_at hl 3 rfl) ?_
  refine lv_iload_n hx hb dX1_takings_1 rfl (lv_at hl 2 rfl) ?_
  refine lv_icmp_le (tgt := 14) hx hb dX1_takings_2 (by decide) (fun c_2 => ?_) (fun c_2 => ?_)
  · refine lv_aload_n hx hb dX1_takings_14 rfl (lv_at hl 0 rfl) ?_
    refine va_get (D := (dC, dI)) (ci := 1) (v := .ref b1) (C := RX1) (T := TX1) (N := 12) hx hb hts inX1 hown hK hP 0 rfl rfl 0 (by decide) (hts (.fieldLink RX1 9 "StoreSlopes$Slopes" "prices" "[I") (List.mem_of_getElem? (i := 1) rfl)) (fun _ h9 => h9) rfl dX1_takings_15 ?_
    refine lv_iload_n hx hb dX1_takings_18 rfl (lv_at hl 1 rfl) ?_
    refine va_iald hx hb hK hP 1 0 rfl rfl (vp_in_nI (show h < 24 by omega) (by omega)) dX1_takings_19 ?_
    refine tp_any (fun y_1 => ?_)
    refine lv_aload_n hx hb dX1_takings_20 rfl (lv_at hl 0 rfl) ?_
    refine va_get (D := (dC, dI)) (ci := 1) (v := .int lsl) (C := RX1) (T := TX1) (N := 12) hx hb hts inX1 hown hK hP 0 rfl rfl 6 (by decide) (hts (.fieldLink RX1 52 "StoreSlopes$Slopes" "sellLoss" "I") (List.mem_of_getElem? (i := 2) rfl)) (fun _ h9 => h9) rfl dX1_takings_21 ?_
    refine lv_isub hx hb dX1_takings_24 ?_
    refine tp_any (fun y_2 => ?_)
    refine lv_istore (lv' := [(4, .int y_2), (0, .ref b0), (1, .int (nI h)), (2, .int x), (3, .int y)]) hx hb dX1_takings_25 hl (by decide) rfl (fun ls hl => ?_)
    refine lv_iload hx hb dX1_takings_27 (lv_at hl 0 rfl) ?_
    refine lv_iload_n hx hb dX1_takings_29 rfl (lv_at hl 3 rfl) ?_
    refine lv_iload_n hx hb dX1_takings_30 rfl (lv_at hl 4 rfl) ?_
    refine lv_isub hx hb dX1_takings_31 ?_
    refine tp_any (fun y_3 => ?_)
    refine lv_imul hx hb dX1_takings_32 ?_
    refine tp_any (fun y_4 => ?_)
    refine lv_aload_n hx hb dX1_takings_33 rfl (lv_at hl 1 rfl) ?_
    refine va_get (D := (dC, dI)) (ci := 1) (v := .int lhc) (C := RX1) (T := TX1) (N := 12) hx hb hts inX1 hown hK hP 0 rfl rfl 4 (by decide) (hts (.fieldLink RX1 44 "StoreSlopes$Slopes" "holdCost" "I") (List.mem_of_getElem? (i := 3) rfl)) (fun _ h9 => h9) rfl dX1_takings_34 ?_
    refine lv_iload_n hx hb dX1_takings_37 rfl (lv_at hl 4 rfl) ?_
    refine lv_imul hx hb dX1_takings_38 ?_
    refine tp_any (fun y_5 => ?_)
    refine lv_isub hx hb dX1_takings_39 ?_
    refine tp_any (fun y_6 => ?_)
    subst hQe
    exact W.iret (v := y_6) hx hb hr (fun t ht hW => ⟨⟨_, (), rfl, trivial, trivial⟩, hS.F ht⟩) hS.2.2 dX1_takings_40
  · refine lv_aload_n hx hb dX1_takings_5 rfl (lv_at hl 0 rfl) ?_
    refine va_get (D := (dC, dI)) (ci := 1) (v := .ref b1) (C := RX1) (T := TX1) (N := 12) hx hb hts inX1 hown hK hP 0 rfl rfl 0 (by decide) (hts (.fieldLink RX1 9 "StoreSlopes$Slopes" "prices" "[I") (List.mem_of_getElem? (i := 1) rfl)) (fun _ h9 => h9) rfl dX1_takings_6 ?_
    refine lv_iload_n hx hb dX1_takings_9 rfl (lv_at hl 1 rfl) ?_
    refine va_iald hx hb hK hP 1 0 rfl rfl (vp_in_nI (show h < 24 by omega) (by omega)) dX1_takings_10 ?_
    refine tp_any (fun y_7 => ?_)
    refine lv_goto (tgt := 25) hx hb dX1_takings_11 (by decide) ?_
    refine lv_istore (lv' := [(4, .int y_7), (0, .ref b0), (1, .int (nI h)), (2, .int x), (3, .int y)]) hx hb dX1_takings_25 hl (by decide) rfl (fun ls hl => ?_)
    refine lv_iload hx hb dX1_takings_27 (lv_at hl 0 rfl) ?_
    refine lv_iload_n hx hb dX1_takings_29 rfl (lv_at hl 3 rfl) ?_
    refine lv_iload_n hx hb dX1_takings_30 rfl (lv_at hl 4 rfl) ?_
    refine lv_isub hx hb dX1_takings_31 ?_
    refine tp_any (fun y_8 => ?_)
    refine lv_imul hx hb dX1_takings_32 ?_
    refine tp_any (fun y_9 => ?_)
    refine lv_aload_n hx hb dX1_takings_33 rfl (lv_at hl 1 rfl) ?_
    refine va_get (D := (dC, dI)) (ci := 1) (v := .int lhc) (C := RX1) (T := TX1) (N := 12) hx hb hts inX1 hown hK hP 0 rfl rfl 4 (by decide) (hts (.fieldLink RX1 44 "StoreSlopes$Slopes" "holdCost" "I") (List.mem_of_getElem? (i := 3) rfl)) (fun _ h9 => h9) rfl dX1_takings_34 ?_
    refine lv_iload_n hx hb dX1_takings_37 rfl (lv_at hl 4 rfl) ?_
    refine lv_imul hx hb dX1_takings_38 ?_
    refine tp_any (fun y_10 => ?_)
    refine lv_isub hx hb dX1_takings_39 ?_
    refine tp_any (fun y_11 => ?_)
    subst hQe
    exact W.iret (v := y_11) hx hb hr (fun t ht hW => ⟨⟨_, (), rfl, trivial, trivial⟩, hS.F ht⟩) hS.2.2 dX1_takings_40
set_option maxHeartbeats 4000000 in
set_option maxRecDepth 100000 in
theorem c_X1_canLeave (l : Launch) (dC : Nat → ClassId) (dI : Nat → Nat → Nat) (b0 b1 b2 b3 b4 b5 b6 : Nat) (kb1 kb2 kb3 kb4 kb5 kb6 : ClassId) (ltk : Nat) (lgv : Nat) (lhc : Int32) (lew : Int32) (lsl : Int32) (lsh : Int32) (pr : Nat → Int32) (lr : Nat → Int32) (tb : Nat → Int32) (hi : Nat → Int32) (by_ : Nat → Int32) (se : Nat → Int32) (h : Nat) (x : Int32) (i0 : ltk ≤ 9) (i1 : lgv ≤ 9) (i2 : bdA 60 24 lr) (i3 : bdA 60 25 hi) (i4 : bdA 60 24 by_) (i5 : bdA 60 24 se) (g0 : h ≤ 24) : Met l yX1_canLeave wsX1_canLeave ({ frames := 0, cells := 0, slots := 0, locals := 0 }) (va_Pc [.ref b0, .int (nI h), .int x] (fun U => va_P (dC, dI) vwCl [(b0, .inr (1, [.ref b1, .ref b2, .int (nI ltk), .int (nI lgv), .int lhc, .int lew, .int lsl, .int lsh, .ref b3, .ref b4, .ref b5, .ref b6])), (b1, .inl (kb1, 24, .inl pr)), (b2, .inl (kb2, 24, .inl lr)), (b3, .inl (kb3, 1525, .inl tb)), (b4, .inl (kb4, 25, .inl hi)), (b5, .inl (kb5, 24, .inl by_)), (b6, .inl (kb6, 24, .inl se))] U.heap ∧ va_K (dC, dI) vwCl [(kb1, .int), (kb2, .int), (kb3, .int), (kb4, .int), (kb5, .int), (kb6, .int)] U)) (va_Qi (fun r (_ : Unit) => r = 0 ∨ r = 1) (fun _ _ => True) (fun _ => False)) 0 0 (fun _ => False) := by
  refine Met.ofW (cc := cX1_canLeave) (maxL := 3) (ret := (some .boolean)) (by decide) rfl ?_
  intro p e s m args below meth c s₁ B hml hv
  obtain ⟨rfl, hP, hK⟩ := hv
  have hx := B.exec
  have hb := B.bytes
  have hr := B.returns
  have hts := atoms_spec (ws := wsX1_canLeave) B.pre
  have hown : s.vm.findClass RX1 = some m.cls := findClass_of_methodNamed B.named
  have hlocks := B.notSynchronized
  have inX1 : ∀ w ∈ wsX10, w ∈ wsX1_canLeave := fun _ h => List.mem_cons_of_mem _ (List.mem_append_right _ h)
  have hS : va_S (fun _ => False) s.heap s.heap [] := va_S.rf
  have hl := lv_entry ([.ref b0, .int (nI h), .int x]) (n := 3) (Nat.le_of_ble_eq_true rfl)
  rw [lg_entry_eq]
  generalize (lg_sl ([.ref b0, .int (nI h), .int x]) ++ List.replicate (3 - (lg_sl ([.ref b0, .int (nI h), .int x])).length) Slot.unset).toArray = ls at hl ⊢
  generalize hQe : MQ below _ _ s 0 0 _ = Q
  generalize ([.ref b0, .int (nI h), .int x] : List Value).toArray = args at hts hQe ⊢
  have hl : lv_has ls 3 [(0, .ref b0), (1, .int (nI h)), (2, .int x)] := hl
  refine lv_iload_n hx hb dX1_canLeave_0 rfl (lv_at hl 2 rfl) ?_
  refine lv_aload_n hx hb dX1_canLeave_1 rfl (lv_at hl 0 rfl) ?_
  refine va_get (D := (dC, dI)) (ci := 1) (v := .ref b4) (C := RX1) (T := TX1) (N := 12) hx hb hts inX1 hown hK hP 0 rfl rfl 9 (by decide) (hts (.fieldLink RX1 21 "StoreSlopes$Slopes" "highest" "[I") (List.mem_of_getElem? (i := 1) rfl)) (fun _ h9 => h9) rfl dX1_canLeave_2 ?_
  refine lv_iload_n hx hb dX1_canLeave_5 rfl (lv_at hl 1 rfl) ?_
  refine va_iald hx hb hK hP 4 3 rfl rfl (vp_in_nI (show h < 25 by omega) (by omega)) dX1_canLeave_6 ?_
  obtain ⟨j_1, hj_1, ej_1⟩ := bdA_get (n := 60) (N := 25) (f := hi) (by assumption) (show h < 25 by omega) (by omega)
  refine tp_as ej_1 ?_
  refine lv_icmp_gt (tgt := 14) hx hb dX1_canLeave_7 (by decide) (fun c_7 => ?_) (fun c_7 => ?_)
  · refine lv_iconst (v := nI 0) hx hb dX1_canLeave_14 (by decide) ?_
    subst hQe
    exact W.zret (v := (nI 0)) hx hb hr (by decide) (fun t ht hW => ⟨⟨_, (), rfl, Or.inl rfl, trivial⟩, hS.F ht⟩) hS.2.2 dX1_canLeave_15
  · refine lv_iconst (v := nI 1) hx hb dX1_canLeave_10 (by decide) ?_
    refine lv_goto (tgt := 15) hx hb dX1_canLeave_11 (by decide) ?_
    subst hQe
    exact W.zret (v := (nI 1)) hx hb hr (by decide) (fun t ht hW => ⟨⟨_, (), rfl, Or.inr rfl, trivial⟩, hS.F ht⟩) hS.2.2 dX1_canLeave_15
set_option maxHeartbeats 4000000 in
set_option maxRecDepth 100000 in
theorem c_X1_bends (l : Launch) (dC : Nat → ClassId) (dI : Nat → Nat → Nat) (b0 b1 b2 b3 b4 b5 b6 : Nat) (kb1 kb2 kb3 kb4 kb5 kb6 : ClassId) (ltk : Nat) (lgv : Nat) (lhc : Int32) (lew : Int32) (lsl : Int32) (lsh : Int32) (pr : Nat → Int32) (lr : Nat → Int32) (tb : Nat → Int32) (hi : Nat → Int32) (by_ : Nat → Int32) (se : Nat → Int32) (h : Nat) (i0 : ltk ≤ 9) (i1 : lgv ≤ 9) (i2 : bdA 60 24 lr) (i3 : bdA 60 25 hi) (i4 : bdA 60 24 by_) (i5 : bdA 60 24 se) (g0 : h ≤ 24) : Met l yX1_bends wsX1_bends ({ frames := 2, cells := 0, slots := 0, locals := 44 }) (va_Pc [.ref b0, .int (nI h)] (fun U => va_P (dC, dI) vwCl [(b0, .inr (1, [.ref b1, .ref b2, .int (nI ltk), .int (nI lgv), .int lhc, .int lew, .int lsl, .int lsh, .ref b3, .ref b4, .ref b5, .ref b6])), (b1, .inl (kb1, 24, .inl pr)), (b2, .inl (kb2, 24, .inl lr)), (b3, .inl (kb3, 1525, .inl tb)), (b4, .inl (kb4, 25, .inl hi)), (b5, .inl (kb5, 24, .inl by_)), (b6, .inl (kb6, 24, .inl se))] U.heap ∧ va_K (dC, dI) vwCl [(kb1, .int), (kb2, .int), (kb3, .int), (kb4, .int), (kb5, .int), (kb6, .int)] U)) (va_Qi (fun r (_ : Unit) => True) (fun _ _ => True) (fun _ => False)) 0 0 (fun _ => False) := by
  refine Met.ofW (cc := cX1_bends) (maxL := 4) (ret := (some .int)) (by decide) rfl ?_
  intro p e s m args below meth c s₁ B hml hv
  obtain ⟨rfl, hP, hK⟩ := hv
  have hx := B.exec
  have hb := B.bytes
  have hr := B.returns
  have hts := atoms_spec (ws := wsX1_bends) B.pre
  have hown : s.vm.findClass RX1 = some m.cls := findClass_of_methodNamed B.named
  have hlocks := B.notSynchronized
  have inX1 : ∀ w ∈ wsX10, w ∈ wsX1_bends := fun _ h => List.mem_cons_of_mem _ (List.mem_append_right _ h)
  have hS : va_S (fun _ => False) s.heap s.heap [] := va_S.rf
  have hl := lv_entry ([.ref b0, .int (nI h)]) (n := 4) (Nat.le_of_ble_eq_true rfl)
  rw [lg_entry_eq]
  generalize (lg_sl ([.ref b0, .int (nI h)]) ++ List.replicate (4 - (lg_sl ([.ref b0, .int (nI h)])).length) Slot.unset).toArray = ls at hl ⊢
  generalize hQe : MQ below _ _ s 0 0 _ = Q
  generalize ([.ref b0, .int (nI h)] : List Value).toArray = args at hts hQe ⊢
  have hl : lv_has ls 4 [(0, .ref b0), (1, .int (nI h))] := hl
  refine lv_iconst (v := nI 0) hx hb dX1_bends_0 (by decide) ?_
  refine lv_istore_n (lv' := [(2, .int (nI 0)), (0, .ref b0), (1, .int (nI h))]) hx hb dX1_bends_1 rfl hl (by decide) rfl (fun ls hl => ?_)
  refine lv_iconst (v := nI 0) hx hb dX1_bends_2 (by decide) ?_
  refine lv_istore_n (lv' := [(3, .int (nI 0)), (2, .int (nI 0)), (0, .ref b0), (1, .int (nI h))]) hx hb dX1_bends_3 rfl hl (by decide) rfl (fun ls hl => ?_)
  have L4 : ∀ (n : Nat) (x : Nat) (q : Int32) (H : Heap) (locs : List Loc) (ls : Array Slot), x ≤ 60 → 60 - x < n → va_P (dC, dI) vwCl [(b0, .inr (1, [.ref b1, .ref b2, .int (nI ltk), .int (nI lgv), .int lhc, .int lew, .int lsl, .int lsh, .ref b3, .ref b4, .ref b5, .ref b6])), (b1, .inl (kb1, 24, .inl pr)), (b2, .inl (kb2, 24, .inl lr)), (b3, .inl (kb3, 1525, .inl tb)), (b4, .inl (kb4, 25, .inl hi)), (b5, .inl (kb5, 24, .inl by_)), (b6, .inl (kb6, 24, .inl se))] H → va_S (fun _ => False) s.heap H locs → lv_has ls 4 [(0, .ref b0), (1, .int (nI h)), (2, .int q), (3, .int (nI x))] → W p l e (headSpec wsX1_bends { frames := 2, cells := 0, slots := 0, locals := 44 }).room s m args below meth c H locs 0 0 Q (F0 m 4 ls []) := by
    intro n
    induction n with
    | zero => intro x q H locs ls hL4_0 hn; exact absurd hn (Nat.not_lt_zero _)
    | succ n ih =>
      intro x q H locs ls hL4_0 hn hP hS hl
      refine lv_iload_n hx hb dX1_bends_4 rfl (lv_at hl 3 rfl) ?_
      refine lv_iconst (v := nI 2) hx hb dX1_bends_5 (by decide) ?_
      refine lv_iadd hx hb dX1_bends_6 ?_
      refine tp_as (nI_add x 2) ?_
      refine lv_aload_n hx hb dX1_bends_7 rfl (lv_at hl 0 rfl) ?_
      refine va_get (D := (dC, dI)) (ci := 1) (v := .ref b4) (C := RX1) (T := TX1) (N := 12) hx hb hts inX1 hown hK hP 0 rfl rfl 9 (by decide) (hts (.fieldLink RX1 21 "StoreSlopes$Slopes" "highest" "[I") (List.mem_of_getElem? (i := 1) rfl)) (fun _ h9 => h9) rfl dX1_bends_8 ?_
      refine lv_iload_n hx hb dX1_bends_11 rfl (lv_at hl 1 rfl) ?_
      refine va_iald hx hb hK hP 4 3 rfl rfl (vp_in_nI (show h < 25 by omega) (by omega)) dX1_bends_12 ?_
      obtain ⟨j_1, hj_1, ej_1⟩ := bdA_get (n := 60) (N := 25) (f := hi) (by assumption) (show h < 25 by omega) (by omega)
      refine tp_as ej_1 ?_
      refine lv_icmp_gt (tgt := 42) hx hb dX1_bends_13 (by decide) (fun c_13 => ?_) (fun c_13 => ?_)
      · have c_13 := (nI_ltI (by omega : j_1 < 2 ^ 31) (by omega : x + 2 < 2 ^ 31)).mp c_13
        refine lv_iload_n hx hb dX1_bends_42 rfl (lv_at hl 2 rfl) ?_
        subst hQe
        exact W.iret (v := q) hx hb hr (fun t ht hW => ⟨⟨_, (), rfl, trivial, trivial⟩, hS.F ht⟩) hS.2.2 dX1_bends_43
      · have c_13 := (not_congr (nI_ltI (by omega : j_1 < 2 ^ 31) (by omega : x + 2 < 2 ^ 31))).mp c_13
        refine lv_aload_n hx hb dX1_bends_16 rfl (lv_at hl 0 rfl) ?_
        refine lv_iload_n hx hb dX1_bends_17 rfl (lv_at hl 1 rfl) ?_
        refine lv_iload_n hx hb dX1_bends_18 rfl (lv_at hl 3 rfl) ?_
        have hPc := hP.sub (ws' := [(b0, .inr (1, [.ref b1, .ref b2, .int (nI ltk), .int (nI lgv), .int lhc, .int lew, .int lsl, .int lsh, .ref b3, .ref b4, .ref b5, .ref b6])), (b1, .inl (kb1, 24, .inl pr)), (b2, .inl (kb2, 24, .inl lr)), (b3, .inl (kb3, 1525, .inl tb)), (b4, .inl (kb4, 25, .inl hi)), (b5, .inl (kb5, 24, .inl by_)), (b6, .inl (kb6, 24, .inl se))]) [0, 1, 2, 3, 4, 5, 6] rfl
        have hKc := hK.sub (tys' := [(kb1, .int), (kb2, .int), (kb3, .int), (kb4, .int), (kb5, .int), (kb6, .int)]) [0, 1, 2, 3, 4, 5] rfl
        refine va_calli (va_runV (As := [.int (nI h), .int (nI x)]) (rest := []) ⟨hx, hb, hml, hown, hts⟩ (c_X1_slope l dC dI b0 b1 b2 b3 b4 b5 b6 kb1 kb2 kb3 kb4 kb5 kb6 ltk lgv lhc lew lsl lsh pr lr tb hi by_ se h x (by first | assumption | omega) (by first | assumption | omega) (by first | assumption | omega) (by first | assumption | omega) (by first | assumption | omega) (by first | assumption | omega) (by first | assumption | omega) (by first | assumption | omega)) (cwV 2 hts gX1_bends_X1_slope rfl rfl rfl (by decide +kernel) ⟨Nat.le_of_ble_eq_true rfl, Nat.le_of_ble_eq_true rfl⟩) ⟨fun a U g mk q => by obtain ⟨q0, qP, qK⟩ := q; exact ⟨q0, qP, va_K.moved (u := U) (U := U.calling g mk a) (Vm.Alike.refl U.vm) qK⟩, va_recv hKc hPc (ci := 1) (q0 := 0) rfl rfl, fun U hU hW => ⟨rfl, by rw [hU]; exact hPc, va_K.moved hW.alike hKc⟩⟩ rfl rfl hl.1 rfl (lv_room (Nat.le_of_ble_eq_true rfl)) dX1_bends_19 ⟨Nat.le_of_ble_eq_true rfl, Nat.le_of_ble_eq_true rfl⟩) hS (fun q _ h => h.elim) (fun q h => h.elim) (fun r_2 u t H1 locs ht hvm hw hB hz1 hk1 hS => ?_)
        refine W.widen (k := 0) (n := 0) (Nat.le_of_ble_eq_true rfl) (Nat.le_of_ble_eq_true rfl) ?_
        have hP := hP.kept (H1 := H1) (fun k q hk => hk1 q.1 (hP k q hk).lt (fun h => h))
        clear hz1 hk1 hB ht hvm t
        generalize H1 = H at hP hS ⊢
        have hP : va_P (dC, dI) vwCl [(b0, .inr (1, [.ref b1, .ref b2, .int (nI ltk), .int (nI lgv), .int lhc, .int lew, .int lsl, .int lsh, .ref b3, .ref b4, .ref b5, .ref b6])), (b1, .inl (kb1, 24, .inl pr)), (b2, .inl (kb2, 24, .inl lr)), (b3, .inl (kb3, 1525, .inl tb)), (b4, .inl (kb4, 25, .inl hi)), (b5, .inl (kb5, 24, .inl by_)), (b6, .inl (kb6, 24, .inl se))] H := hP
        clear hw
        refine lv_aload_n hx hb dX1_bends_22 rfl (lv_at hl 0 rfl) ?_
        refine lv_iload_n hx hb dX1_bends_23 rfl (lv_at hl 1 rfl) ?_
        refine lv_iload_n hx hb dX1_bends_24 rfl (lv_at hl 3 rfl) ?_
        refine lv_iconst (v := nI 1) hx hb dX1_bends_25 (by decide) ?_
        refine lv_iadd hx hb dX1_bends_26 ?_
        refine tp_as (nI_add x 1) ?_
        have hPc := hP.sub (ws' := [(b0, .inr (1, [.ref b1, .ref b2, .int (nI ltk), .int (nI lgv), .int lhc, .int lew, .int lsl, .int lsh, .ref b3, .ref b4, .ref b5, .ref b6])), (b1, .inl (kb1, 24, .inl pr)), (b2, .inl (kb2, 24, .inl lr)), (b3, .inl (kb3, 1525, .inl tb)), (b4, .inl (kb4, 25, .inl hi)), (b5, .inl (kb5, 24, .inl by_)), (b6, .inl (kb6, 24, .inl se))]) [0, 1, 2, 3, 4, 5, 6] rfl
        have hKc := hK.sub (tys' := [(kb1, .int), (kb2, .int), (kb3, .int), (kb4, .int), (kb5, .int), (kb6, .int)]) [0, 1, 2, 3, 4, 5] rfl
        refine va_calli (va_runV (As := [.int (nI h), .int (nI (x + 1))]) (rest := [.int r_2]) ⟨hx, hb, hml, hown, hts⟩ (c_X1_slope l dC dI b0 b1 b2 b3 b4 b5 b6 kb1 kb2 kb3 kb4 kb5 kb6 ltk lgv lhc lew lsl lsh pr lr tb hi by_ se h (x + 1) (by first | assumption | omega) (by first | assumption | omega) (by first | assumption | omega) (by first | assumption | omega) (by first | assumption | omega) (by first | assumption | omega) (by first | assumption | omega) (by first | assumption | omega)) (cwV 2 hts gX1_bends_X1_slope rfl rfl rfl (by decide +kernel) ⟨Nat.le_of_ble_eq_true rfl, Nat.le_of_ble_eq_true rfl⟩) ⟨fun a U g mk q => by obtain ⟨q0, qP, qK⟩ := q; exact ⟨q0, qP, va_K.moved (u := U) (U := U.calling g mk a) (Vm.Alike.refl U.vm) qK⟩, va_recv hKc hPc (ci := 1) (q0 := 0) rfl rfl, fun U hU hW => ⟨rfl, by rw [hU]; exact hPc, va_K.moved hW.alike hKc⟩⟩ rfl rfl hl.1 rfl (lv_room (Nat.le_of_ble_eq_true rfl)) dX1_bends_27 ⟨Nat.le_of_ble_eq_true rfl, Nat.le_of_ble_eq_true rfl⟩) hS (fun q _ h => h.elim) (fun q h => h.elim) (fun r_3 u t H1 locs ht hvm hw hB hz1 hk1 hS => ?_)
        refine W.widen (k := 0) (n := 0) (Nat.le_of_ble_eq_true rfl) (Nat.le_of_ble_eq_true rfl) ?_
        have hP := hP.kept (H1 := H1) (fun k q hk => hk1 q.1 (hP k q hk).lt (fun h => h))
        clear hz1 hk1 hB ht hvm t
        generalize H1 = H at hP hS ⊢
        have hP : va_P (dC, dI) vwCl [(b0, .inr (1, [.ref b1, .ref b2, .int (nI ltk), .int (nI lgv), .int lhc, .int lew, .int lsl, .int lsh, .ref b3, .ref b4, .ref b5, .ref b6])), (b1, .inl (kb1, 24, .inl pr)), (b2, .inl (kb2, 24, .inl lr)), (b3, .inl (kb3, 1525, .inl tb)), (b4, .inl (kb4, 25, .inl hi)), (b5, .inl (kb5, 24, .inl by_)), (b6, .inl (kb6, 24, .inl se))] H := hP
        clear hw
        refine lv_icmp_eq (tgt := 36) hx hb dX1_bends_30 (by decide) (fun c_30 => ?_) (fun c_30 => ?_)
        · refine lv_iinc (v := nI (x + 1)) (lv' := [(3, .int (nI (x + 1))), (0, .ref b0), (1, .int (nI h)), (2, .int q)]) hx hb dX1_bends_36 hl (k := 3) rfl (inc_n x 1) (by decide) rfl (fun ls hl => ?_)
          refine lv_goto (tgt := 4) hx hb dX1_bends_39 (by decide) ?_
          exact ih (x + 1) q _ _ _ (by first | assumption | omega) (by omega) hP hS (lv_sub hl [1, 2, 3, 0] rfl)
        · obtain ⟨x_4, ex_4⟩ : ∃ y : Int32, y = q + Int32.ofInt 1 := ⟨_, rfl⟩
          refine lv_iinc (v := x_4) (lv' := [(2, .int x_4), (0, .ref b0), (1, .int (nI h)), (3, .int (nI x))]) hx hb dX1_bends_33 hl (k := 2) rfl ex_4.symm (by decide) rfl (fun ls hl => ?_)
          refine lv_iinc (v := nI (x + 1)) (lv' := [(3, .int (nI (x + 1))), (2, .int x_4), (0, .ref b0), (1, .int (nI h))]) hx hb dX1_bends_36 hl (k := 3) rfl (inc_n x 1) (by decide) rfl (fun ls hl => ?_)
          refine lv_goto (tgt := 4) hx hb dX1_bends_39 (by decide) ?_
          exact ih (x + 1) x_4 _ _ _ (by first | assumption | omega) (by omega) hP hS (lv_sub hl [2, 3, 1, 0] rfl)
  exact L4 (60 - 0 + 1) 0 (nI 0) _ _ _ (by first | assumption | omega) (Nat.lt_succ_self _) hP hS (lv_sub hl [2, 3, 1, 0] rfl)
