set_option maxHeartbeats 4000000 in
set_option maxRecDepth 100000 in
theorem c_X3_hasPlan (l : Launch) (dC : Nat → ClassId) (dI : Nat → Nat → Nat) (x0 s0 s1 s2 b0 b1 b2 b3 b4 b5 b6 ra rt rp rd ri rs rk : Nat) (ks1 ks2 kb1 kb2 kb3 kb4 kb5 kb6 : ClassId) (ld : Int32) (ud : Int32) (sd : Int32) (ov : Nat) (st : Nat) (tk : Nat) (gv : Nat) (hc : Int32) (ew : Int32) (sl : Int32) (ca : Int32) (lc : Nat) (rm : Nat → Int32) (lw : Nat → Int32) (ltk : Nat) (lgv : Nat) (lhc : Int32) (lew : Int32) (lsl : Int32) (lsh : Int32) (pr : Nat → Int32) (lr : Nat → Int32) (tb : Nat → Int32) (hi : Nat → Int32) (by_ : Nat → Int32) (se : Nat → Int32) (i0 : ov ≤ 24) (i1 : st ≤ 60) (i2 : tk ≤ 9) (i3 : gv ≤ 9) (i4 : lc ≤ 12) (i5 : bdA 60 24 rm) (i6 : ltk ≤ 9) (i7 : lgv ≤ 9) (i8 : bdA 60 24 lr) (i9 : bdA 60 25 hi) (i10 : bdA 60 24 by_) (i11 : bdA 60 24 se) : Met l yX3_hasPlan wsX3_hasPlan ({ frames := 1, cells := 0, slots := 0, locals := 22 }) (va_Pc [.ref x0, .ref b0] (fun U => va_P (dC, dI) vwCl [(x0, .inr (3, [.ref s0, .ref ra, .ref rt, .ref rp, .ref rd, .ref ri, .ref rs, .ref rk, .int ld, .int ud, .int sd])), (s0, .inr (2, [.int (nI ov), .int (nI st), .int (nI tk), .int (nI gv), .int hc, .int ew, .int sl, .int ca, .int (nI lc), .ref s1, .ref s2])), (s1, .inl (ks1, 24, .inl rm)), (s2, .inl (ks2, 60, .inl lw)), (b0, .inr (1, [.ref b1, .ref b2, .int (nI ltk), .int (nI lgv), .int lhc, .int lew, .int lsl, .int lsh, .ref b3, .ref b4, .ref b5, .ref b6])), (b1, .inl (kb1, 24, .inl pr)), (b2, .inl (kb2, 24, .inl lr)), (b3, .inl (kb3, 1525, .inl tb)), (b4, .inl (kb4, 25, .inl hi)), (b5, .inl (kb5, 24, .inl by_)), (b6, .inl (kb6, 24, .inl se))] U.heap ∧ va_K (dC, dI) vwCl [(ks1, .int), (ks2, .int), (kb1, .int), (kb2, .int), (kb3, .int), (kb4, .int), (kb5, .int), (kb6, .int)] U)) (va_Qi (fun r (_ : Unit) => r = 0 ∨ r = 1) (fun _ _ => True) (fun _ => False)) 0 0 (fun _ => False) := by
  refine Met.ofW (cc := cX3_hasPlan) (maxL := 2) (ret := (some .boolean)) (by decide) rfl ?_
  intro p e s m args below meth c s₁ B hml hv
  obtain ⟨rfl, hP, hK⟩ := hv
  have hx := B.exec
  have hb := B.bytes
  have hr := B.returns
  have hts := atoms_spec (ws := wsX3_hasPlan) B.pre
  have hown : s.vm.findClass RX3 = some m.cls := findClass_of_methodNamed B.named
  have hlocks := B.notSynchronized
  have inX3 : ∀ w ∈ wsX30, w ∈ wsX3_hasPlan := fun _ h => List.mem_cons_of_mem _ (List.mem_append_left _ (List.mem_append_left _ (List.mem_append_right _ h)))
  have inX2 : ∀ w ∈ wsX20, w ∈ wsX3_hasPlan := fun _ h => List.mem_cons_of_mem _ (List.mem_append_left _ (List.mem_append_right _ h))
  have inX1 : ∀ w ∈ wsX10, w ∈ wsX3_hasPlan := fun _ h => List.mem_cons_of_mem _ (List.mem_append_right _ h)
  have hS : va_S (fun _ => False) s.heap s.heap [] := va_S.rf
  have hl := lv_entry ([.ref x0, .ref b0]) (n := 2) (Nat.le_of_ble_eq_true rfl)
  rw [lg_entry_eq]
  generalize (lg_sl ([.ref x0, .ref b0]) ++ List.replicate (2 - (lg_sl ([.ref x0, .ref b0])).length) Slot.unset).toArray = ls at hl ⊢
  generalize hQe : MQ below _ _ s 0 0 _ = Q
  generalize ([.ref x0, .ref b0] : List Value).toArray = args at hts hQe ⊢
  have hl : lv_has ls 2 [(0, .ref x0), (1, .ref b0)] := hl
  refine lv_aload_n hx hb dX3_hasPlan_0 rfl (lv_at hl 1 rfl) ?_
  refine lv_aload_n hx hb dX3_hasPlan_1 rfl (lv_at hl 0 rfl) ?_
  refine va_get (D := (dC, dI)) (ci := 3) (v := .ref s0) (C := RX3) (T := TX3) (N := 11) hx hb hts inX3 hown hK hP 0 rfl rfl 0 (by decide) (hts (.fieldLink RX3 12 "StoreSlopes" "now" "LStoreSlopes$State;") (List.mem_of_getElem? (i := 1) rfl)) (fun _ h9 => h9) rfl dX3_hasPlan_2 ?_
  refine va_get (D := (dC, dI)) (ci := 2) (v := .int (nI ov)) (C := RX2) (T := TX2) (N := 11) hx hb hts inX2 hown hK hP 1 rfl rfl 0 (by decide) (hts (.fieldLink RX3 53 "StoreSlopes$State" "over" "I") (List.mem_of_getElem? (i := 2) rfl)) (fun _ h9 => h9) rfl dX3_hasPlan_5 ?_
  refine lv_aload_n hx hb dX3_hasPlan_8 rfl (lv_at hl 0 rfl) ?_
  refine va_get (D := (dC, dI)) (ci := 3) (v := .ref s0) (C := RX3) (T := TX3) (N := 11) hx hb hts inX3 hown hK hP 0 rfl rfl 0 (by decide) (hts (.fieldLink RX3 12 "StoreSlopes" "now" "LStoreSlopes$State;") (List.mem_of_getElem? (i := 1) rfl)) (fun _ h9 => h9) rfl dX3_hasPlan_9 ?_
  refine va_get (D := (dC, dI)) (ci := 2) (v := .int (nI st)) (C := RX2) (T := TX2) (N := 11) hx hb hts inX2 hown hK hP 1 rfl rfl 1 (by decide) (hts (.fieldLink RX3 57 "StoreSlopes$State" "start" "I") (List.mem_of_getElem? (i := 3) rfl)) (fun _ h9 => h9) rfl dX3_hasPlan_12 ?_
  have hPc := hP.sub (ws' := [(b0, .inr (1, [.ref b1, .ref b2, .int (nI ltk), .int (nI lgv), .int lhc, .int lew, .int lsl, .int lsh, .ref b3, .ref b4, .ref b5, .ref b6])), (b1, .inl (kb1, 24, .inl pr)), (b2, .inl (kb2, 24, .inl lr)), (b3, .inl (kb3, 1525, .inl tb)), (b4, .inl (kb4, 25, .inl hi)), (b5, .inl (kb5, 24, .inl by_)), (b6, .inl (kb6, 24, .inl se))]) [4, 5, 6, 7, 8, 9, 10] rfl
  have hKc := hK.sub (tys' := [(kb1, .int), (kb2, .int), (kb3, .int), (kb4, .int), (kb5, .int), (kb6, .int)]) [2, 3, 4, 5, 6, 7] rfl
  refine va_calli (va_runV (As := [.int (nI ov), .int (nI st)]) (rest := []) ⟨hx, hb, hml, hown, hts⟩ (c_X1_canLeave l dC dI b0 b1 b2 b3 b4 b5 b6 kb1 kb2 kb3 kb4 kb5 kb6 ltk lgv lhc lew lsl lsh pr lr tb hi by_ se ov (nI st) (by first | assumption | omega) (by first | assumption | omega) (by first | assumption | omega) (by first | assumption | omega) (by first | assumption | omega) (by first | assumption | omega) (by first | assumption | omega)) (cwV 2 hts gX3_hasPlan_X1_canLeave rfl rfl rfl (by decide +kernel) ⟨Nat.le_of_ble_eq_true rfl, Nat.le_of_ble_eq_true rfl⟩) ⟨fun a U g mk q => by obtain ⟨q0, qP, qK⟩ := q; exact ⟨q0, qP, va_K.moved (u := U) (U := U.calling g mk a) (Vm.Alike.refl U.vm) qK⟩, va_recv hKc hPc (ci := 1) (q0 := 0) rfl rfl, fun U hU hW => ⟨rfl, by rw [hU]; exact hPc, va_K.moved hW.alike hKc⟩⟩ rfl rfl hl.1 rfl (lv_room (Nat.le_of_ble_eq_true rfl)) dX3_hasPlan_15 ⟨Nat.le_of_ble_eq_true rfl, Nat.le_of_ble_eq_true rfl⟩) hS (fun q _ h => h.elim) (fun q h => h.elim) (fun r_1 u t H1 locs ht hvm hw hB hz1 hk1 hS => ?_)
  refine W.widen (k := 0) (n := 0) (Nat.le_of_ble_eq_true rfl) (Nat.le_of_ble_eq_true rfl) ?_
  have hP := hP.kept (H1 := H1) (fun k q hk => hk1 q.1 (hP k q hk).lt (fun h => h))
  clear hz1 hk1 hB ht hvm t
  generalize H1 = H at hP hS ⊢
  have hP : va_P (dC, dI) vwCl [(x0, .inr (3, [.ref s0, .ref ra, .ref rt, .ref rp, .ref rd, .ref ri, .ref rs, .ref rk, .int ld, .int ud, .int sd])), (s0, .inr (2, [.int (nI ov), .int (nI st), .int (nI tk), .int (nI gv), .int hc, .int ew, .int sl, .int ca, .int (nI lc), .ref s1, .ref s2])), (s1, .inl (ks1, 24, .inl rm)), (s2, .inl (ks2, 60, .inl lw)), (b0, .inr (1, [.ref b1, .ref b2, .int (nI ltk), .int (nI lgv), .int lhc, .int lew, .int lsl, .int lsh, .ref b3, .ref b4, .ref b5, .ref b6])), (b1, .inl (kb1, 24, .inl pr)), (b2, .inl (kb2, 24, .inl lr)), (b3, .inl (kb3, 1525, .inl tb)), (b4, .inl (kb4, 25, .inl hi)), (b5, .inl (kb5, 24, .inl by_)), (b6, .inl (kb6, 24, .inl se))] H := hP
  have wr_1 := hw
  clear hw
  subst hQe
  exact W.zret (v := r_1) hx hb hr (by rcases wr_1 with q | q <;> rw [q] <;> decide) (fun t ht hW => ⟨⟨_, (), rfl, wr_1, trivial⟩, hS.F ht⟩) hS.2.2 dX3_hasPlan_18
set_option maxHeartbeats 4000000 in
set_option maxRecDepth 100000 in
theorem c_X3_bestBy (l : Launch) (dC : Nat → ClassId) (dI : Nat → Nat → Nat) (x0 s0 s1 s2 b0 b1 b2 b3 b4 b5 b6 ra rt rp rd ri rs rk : Nat) (ks1 ks2 kb1 kb2 kb3 kb4 kb5 kb6 : ClassId) (ld : Int32) (ud : Int32) (sd : Int32) (ov : Nat) (st : Nat) (tk : Nat) (gv : Nat) (hc : Int32) (ew : Int32) (sl : Int32) (ca : Int32) (lc : Nat) (rm : Nat → Int32) (lw : Nat → Int32) (ltk : Nat) (lgv : Nat) (lhc : Int32) (lew : Int32) (lsl : Int32) (lsh : Int32) (pr : Nat → Int32) (lr : Nat → Int32) (tb : Nat → Int32) (hi : Nat → Int32) (by_ : Nat → Int32) (se : Nat → Int32) (i0 : ov ≤ 24) (i1 : st ≤ 60) (i2 : tk ≤ 9) (i3 : gv ≤ 9) (i4 : lc ≤ 12) (i5 : bdA 60 24 rm) (i6 : ltk ≤ 9) (i7 : lgv ≤ 9) (i8 : bdA 60 24 lr) (i9 : bdA 60 25 hi) (i10 : bdA 60 24 by_) (i11 : bdA 60 24 se) : Met l yX3_bestBy wsX3_bestBy ({ frames := 2, cells := 0, slots := 0, locals := 43 }) (va_Pc [.ref x0, .ref b0] (fun U => va_P (dC, dI) vwCl [(x0, .inr (3, [.ref s0, .ref ra, .ref rt, .ref rp, .ref rd, .ref ri, .ref rs, .ref rk, .int ld, .int ud, .int sd])), (s0, .inr (2, [.int (nI ov), .int (nI st), .int (nI tk), .int (nI gv), .int hc, .int ew, .int sl, .int ca, .int (nI lc), .ref s1, .ref s2])), (s1, .inl (ks1, 24, .inl rm)), (s2, .inl (ks2, 60, .inl lw)), (b0, .inr (1, [.ref b1, .ref b2, .int (nI ltk), .int (nI lgv), .int lhc, .int lew, .int lsl, .int lsh, .ref b3, .ref b4, .ref b5, .ref b6])), (b1, .inl (kb1, 24, .inl pr)), (b2, .inl (kb2, 24, .inl lr)), (b3, .inl (kb3, 1525, .inl tb)), (b4, .inl (kb4, 25, .inl hi)), (b5, .inl (kb5, 24, .inl by_)), (b6, .inl (kb6, 24, .inl se))] U.heap ∧ va_K (dC, dI) vwCl [(ks1, .int), (ks2, .int), (kb1, .int), (kb2, .int), (kb3, .int), (kb4, .int), (kb5, .int), (kb6, .int)] U)) (va_Qi (fun r (_ : Unit) => True) (fun _ _ => True) (fun _ => False)) 0 0 (fun _ => False) := by
  refine Met.ofW (cc := cX3_bestBy) (maxL := 2) (ret := (some .int)) (by decide) rfl ?_
  intro p e s m args below meth c s₁ B hml hv
  obtain ⟨rfl, hP, hK⟩ := hv
  have hx := B.exec
  have hb := B.bytes
  have hr := B.returns
  have hts := atoms_spec (ws := wsX3_bestBy) B.pre
  have hown : s.vm.findClass RX3 = some m.cls := findClass_of_methodNamed B.named
  have hlocks := B.notSynchronized
  have inX3 : ∀ w ∈ wsX30, w ∈ wsX3_bestBy := fun _ h => List.mem_cons_of_mem _ (List.mem_append_left _ (List.mem_append_left _ (List.mem_append_right _ h)))
  have inX2 : ∀ w ∈ wsX20, w ∈ wsX3_bestBy := fun _ h => List.mem_cons_of_mem _ (List.mem_append_left _ (List.mem_append_right _ h))
  have inX1 : ∀ w ∈ wsX10, w ∈ wsX3_bestBy := fun _ h => List.mem_cons_of_mem _ (List.mem_append_right _ h)
  have hS : va_S (fun _ => False) s.heap s.heap [] := va_S.rf
  have hl := lv_entry ([.ref x0, .ref b0]) (n := 2) (Nat.le_of_ble_eq_true rfl)
  rw [lg_entry_eq]
  generalize (lg_sl ([.ref x0, .ref b0]) ++ List.replicate (2 - (lg_sl ([.ref x0, .ref b0])).length) Slot.unset).toArray = ls at hl ⊢
  generalize hQe : MQ below _ _ s 0 0 _ = Q
  generalize ([.ref x0, .ref b0] : List Value).toArray = args at hts hQe ⊢
  have hl : lv_has ls 2 [(0, .ref x0), (1, .ref b0)] := hl
  refine lv_aload_n hx hb dX3_bestBy_0 rfl (lv_at hl 0 rfl) ?_
  refine lv_aload_n hx hb dX3_bestBy_1 rfl (lv_at hl 1 rfl) ?_
  have hPc := hP.sub (ws' := [(x0, .inr (3, [.ref s0, .ref ra, .ref rt, .ref rp, .ref rd, .ref ri, .ref rs, .ref rk, .int ld, .int ud, .int sd])), (s0, .inr (2, [.int (nI ov), .int (nI st), .int (nI tk), .int (nI gv), .int hc, .int ew, .int sl, .int ca, .int (nI lc), .ref s1, .ref s2])), (s1, .inl (ks1, 24, .inl rm)), (s2, .inl (ks2, 60, .inl lw)), (b0, .inr (1, [.ref b1, .ref b2, .int (nI ltk), .int (nI lgv), .int lhc, .int lew, .int lsl, .int lsh, .ref b3, .ref b4, .ref b5, .ref b6])), (b1, .inl (kb1, 24, .inl pr)), (b2, .inl (kb2, 24, .inl lr)), (b3, .inl (kb3, 1525, .inl tb)), (b4, .inl (kb4, 25, .inl hi)), (b5, .inl (kb5, 24, .inl by_)), (b6, .inl (kb6, 24, .inl se))]) [0, 1, 2, 3, 4, 5, 6, 7, 8, 9, 10] rfl
  have hKc := hK.sub (tys' := [(ks1, .int), (ks2, .int), (kb1, .int), (kb2, .int), (kb3, .int), (kb4, .int), (kb5, .int), (kb6, .int)]) [0, 1, 2, 3, 4, 5, 6, 7] rfl
  refine va_calli (va_runV (As := [.ref b0]) (rest := []) ⟨hx, hb, hml, hown, hts⟩ (c_X3_hasPlan l dC dI x0 s0 s1 s2 b0 b1 b2 b3 b4 b5 b6 ra rt rp rd ri rs rk ks1 ks2 kb1 kb2 kb3 kb4 kb5 kb6 ld ud sd ov st tk gv hc ew sl ca lc rm lw ltk lgv lhc lew lsl lsh pr lr tb hi by_ se  (by first | assumption | omega) (by first | assumption | omega) (by first | assumption | omega) (by first | assumption | omega) (by first | assumption | omega) (by first | assumption | omega) (by first | assumption | omega) (by first | assumption | omega) (by first | assumption | omega) (by first | assumption | omega) (by first | assumption | omega) (by first | assumption | omega) ) (cwV 1 hts gX3_bestBy_X3_hasPlan rfl rfl rfl (by decide +kernel) ⟨Nat.le_of_ble_eq_true rfl, Nat.le_of_ble_eq_true rfl⟩) ⟨fun a U g mk q => by obtain ⟨q0, qP, qK⟩ := q; exact ⟨q0, qP, va_K.moved (u := U) (U := U.calling g mk a) (Vm.Alike.refl U.vm) qK⟩, va_recv hKc hPc (ci := 3) (q0 := 0) rfl rfl, fun U hU hW => ⟨rfl, by rw [hU]; exact hPc, va_K.moved hW.alike hKc⟩⟩ rfl rfl hl.1 rfl (lv_room (Nat.le_of_ble_eq_true rfl)) dX3_bestBy_2 ⟨Nat.le_of_ble_eq_true rfl, Nat.le_of_ble_eq_true rfl⟩) hS (fun q _ h => h.elim) (fun q h => h.elim) (fun r_1 u t H1 locs ht hvm hw hB hz1 hk1 hS => ?_)
  refine W.widen (k := 0) (n := 0) (Nat.le_of_ble_eq_true rfl) (Nat.le_of_ble_eq_true rfl) ?_
  have hP := hP.kept (H1 := H1) (fun k q hk => hk1 q.1 (hP k q hk).lt (fun h => h))
  clear hz1 hk1 hB ht hvm t
  generalize H1 = H at hP hS ⊢
  have hP : va_P (dC, dI) vwCl [(x0, .inr (3, [.ref s0, .ref ra, .ref rt, .ref rp, .ref rd, .ref ri, .ref rs, .ref rk, .int ld, .int ud, .int sd])), (s0, .inr (2, [.int (nI ov), .int (nI st), .int (nI tk), .int (nI gv), .int hc, .int ew, .int sl, .int ca, .int (nI lc), .ref s1, .ref s2])), (s1, .inl (ks1, 24, .inl rm)), (s2, .inl (ks2, 60, .inl lw)), (b0, .inr (1, [.ref b1, .ref b2, .int (nI ltk), .int (nI lgv), .int lhc, .int lew, .int lsl, .int lsh, .ref b3, .ref b4, .ref b5, .ref b6])), (b1, .inl (kb1, 24, .inl pr)), (b2, .inl (kb2, 24, .inl lr)), (b3, .inl (kb3, 1525, .inl tb)), (b4, .inl (kb4, 25, .inl hi)), (b5, .inl (kb5, 24, .inl by_)), (b6, .inl (kb6, 24, .inl se))] H := hP
  clear hw
  refine lv_if_eq (tgt := 32) hx hb dX3_bestBy_5 (by decide) (fun c_5 => ?_) (fun c_5 => ?_)
  · refine lv_iconst (v := (-1)) hx hb dX3_bestBy_32 (by decide) ?_
    subst hQe
    exact W.iret (v := ((-1))) hx hb hr (fun t ht hW => ⟨⟨_, (), rfl, trivial, trivial⟩, hS.F ht⟩) hS.2.2 dX3_bestBy_33
  · refine lv_aload_n hx hb dX3_bestBy_8 rfl (lv_at hl 1 rfl) ?_
    refine lv_aload_n hx hb dX3_bestBy_9 rfl (lv_at hl 0 rfl) ?_
    refine va_get (D := (dC, dI)) (ci := 3) (v := .ref s0) (C := RX3) (T := TX3) (N := 11) hx hb hts inX3 hown hK hP 0 rfl rfl 0 (by decide) (hts (.fieldLink RX3 12 "StoreSlopes" "now" "LStoreSlopes$State;") (List.mem_of_getElem? (i := 1) rfl)) (fun _ h9 => h9) rfl dX3_bestBy_10 ?_
    refine va_get (D := (dC, dI)) (ci := 2) (v := .int (nI ov)) (C := RX2) (T := TX2) (N := 11) hx hb hts inX2 hown hK hP 1 rfl rfl 0 (by decide) (hts (.fieldLink RX3 53 "StoreSlopes$State" "over" "I") (List.mem_of_getElem? (i := 2) rfl)) (fun _ h9 => h9) rfl dX3_bestBy_13 ?_
    refine lv_aload_n hx hb dX3_bestBy_16 rfl (lv_at hl 0 rfl) ?_
    refine va_get (D := (dC, dI)) (ci := 3) (v := .ref s0) (C := RX3) (T := TX3) (N := 11) hx hb hts inX3 hown hK hP 0 rfl rfl 0 (by decide) (hts (.fieldLink RX3 12 "StoreSlopes" "now" "LStoreSlopes$State;") (List.mem_of_getElem? (i := 1) rfl)) (fun _ h9 => h9) rfl dX3_bestBy_17 ?_
    refine va_get (D := (dC, dI)) (ci := 2) (v := .int (nI st)) (C := RX2) (T := TX2) (N := 11) hx hb hts inX2 hown hK hP 1 rfl rfl 1 (by decide) (hts (.fieldLink RX3 57 "StoreSlopes$State" "start" "I") (List.mem_of_getElem? (i := 3) rfl)) (fun _ h9 => h9) rfl dX3_bestBy_20 ?_
    have hPc := hP.sub (ws' := [(b0, .inr (1, [.ref b1, .ref b2, .int (nI ltk), .int (nI lgv), .int lhc, .int lew, .int lsl, .int lsh, .ref b3, .ref b4, .ref b5, .ref b6])), (b1, .inl (kb1, 24, .inl pr)), (b2, .inl (kb2, 24, .inl lr)), (b3, .inl (kb3, 1525, .inl tb)), (b4, .inl (kb4, 25, .inl hi)), (b5, .inl (kb5, 24, .inl by_)), (b6, .inl (kb6, 24, .inl se))]) [4, 5, 6, 7, 8, 9, 10] rfl
    have hKc := hK.sub (tys' := [(kb1, .int), (kb2, .int), (kb3, .int), (kb4, .int), (kb5, .int), (kb6, .int)]) [2, 3, 4, 5, 6, 7] rfl
    refine va_calli (va_runV (As := [.int (nI ov), .int (nI st)]) (rest := []) ⟨hx, hb, hml, hown, hts⟩ (c_X1_most l dC dI b0 b1 b2 b3 b4 b5 b6 kb1 kb2 kb3 kb4 kb5 kb6 ltk lgv lhc lew lsl lsh pr lr tb hi by_ se ov st (by first | assumption | omega) (by first | assumption | omega) (by first | assumption | omega) (by first | assumption | omega) (by first | assumption | omega) (by first | assumption | omega) (by first | assumption | omega) (by first | assumption | omega)) (cwV 2 hts gX3_bestBy_X1_most rfl rfl rfl (by decide +kernel) ⟨Nat.le_of_ble_eq_true rfl, Nat.le_of_ble_eq_true rfl⟩) ⟨fun a U g mk q => by obtain ⟨q0, qP, qK⟩ := q; exact ⟨q0, qP, va_K.moved (u := U) (U := U.calling g mk a) (Vm.Alike.refl U.vm) qK⟩, va_recv hKc hPc (ci := 1) (q0 := 0) rfl rfl, fun U hU hW => ⟨rfl, by rw [hU]; exact hPc, va_K.moved hW.alike hKc⟩⟩ rfl rfl hl.1 rfl (lv_room (Nat.le_of_ble_eq_true rfl)) dX3_bestBy_23 ⟨Nat.le_of_ble_eq_true rfl, Nat.le_of_ble_eq_true rfl⟩) hS (fun q _ h => h.elim) (fun q h => h.elim) (fun r_2 u t H1 locs ht hvm hw hB hz1 hk1 hS => ?_)
    refine W.widen (k := 0) (n := 0) (Nat.le_of_ble_eq_true rfl) (Nat.le_of_ble_eq_true rfl) ?_
    have hP := hP.kept (H1 := H1) (fun k q hk => hk1 q.1 (hP k q hk).lt (fun h => h))
    clear hz1 hk1 hB ht hvm t
    generalize H1 = H at hP hS ⊢
    have hP : va_P (dC, dI) vwCl [(x0, .inr (3, [.ref s0, .ref ra, .ref rt, .ref rp, .ref rd, .ref ri, .ref rs, .ref rk, .int ld, .int ud, .int sd])), (s0, .inr (2, [.int (nI ov), .int (nI st), .int (nI tk), .int (nI gv), .int hc, .int ew, .int sl, .int ca, .int (nI lc), .ref s1, .ref s2])), (s1, .inl (ks1, 24, .inl rm)), (s2, .inl (ks2, 60, .inl lw)), (b0, .inr (1, [.ref b1, .ref b2, .int (nI ltk), .int (nI lgv), .int lhc, .int lew, .int lsl, .int lsh, .ref b3, .ref b4, .ref b5, .ref b6])), (b1, .inl (kb1, 24, .inl pr)), (b2, .inl (kb2, 24, .inl lr)), (b3, .inl (kb3, 1525, .inl tb)), (b4, .inl (kb4, 25, .inl hi)), (b5, .inl (kb5, 24, .inl by_)), (b6, .inl (kb6, 24, .inl se))] H := hP
    clear hw
    refine lv_ldc (own := RX3) (v := (1000000)) hx hb hown (hts (.constant RX3 85 (1000000)) (List.mem_of_getElem? (i := 4) rfl)) dX3_bestBy_26 ?_
    refine lv_iadd hx hb dX3_bestBy_28 ?_
    refine tp_any (fun y_3 => ?_)
    refine lv_goto (tgt := 33) hx hb dX3_bestBy_29 (by decide) ?_
    subst hQe
    exact W.iret (v := y_3) hx hb hr (fun t ht hW => ⟨⟨_, (), rfl, trivial, trivial⟩, hS.F ht⟩) hS.2.2 dX3_bestBy_33
set_option maxHeartbeats 4000000 in
set_option maxRecDepth 100000 in
theorem c_X3_isPlanned (l : Launch) (dC : Nat → ClassId) (dI : Nat → Nat → Nat) (x0 s0 s1 s2 b0 b1 b2 b3 b4 b5 b6 rt rp rd ri rs rk : Nat) (ks1 ks2 kb1 kb2 kb3 kb4 kb5 kb6 : ClassId) (ld : Int32) (ud : Int32) (sd : Int32) (ov : Nat) (st : Nat) (tk : Nat) (gv : Nat) (hc : Int32) (ew : Int32) (sl : Int32) (ca : Int32) (lc : Nat) (rm : Nat → Int32) (lw : Nat → Int32) (ltk : Nat) (lgv : Nat) (lhc : Int32) (lew : Int32) (lsl : Int32) (lsh : Int32) (pr : Nat → Int32) (lr : Nat → Int32) (tb : Nat → Int32) (hi : Nat → Int32) (by_ : Nat → Int32) (se : Nat → Int32) (h : Nat) (i0 : ov ≤ 24) (i1 : st ≤ 60) (i2 : tk ≤ 9) (i3 : gv ≤ 9) (i4 : lc ≤ 12) (i5 : bdA 60 24 rm) (i6 : ltk ≤ 9) (i7 : lgv ≤ 9) (i8 : bdA 60 24 lr) (i9 : bdA 60 25 hi) (i10 : bdA 60 24 by_) (i11 : bdA 60 24 se) (g0 : h < 24) : Met l yX3_isPlanned wsX3_isPlanned ({ frames := 2, cells := 0, slots := 0, locals := 43 }) (va_Pc [.ref x0, .int (nI h)] (fun U => va_P (dC, dI) vwCl [(x0, .inr (3, [.ref s0, .ref b0, .ref rt, .ref rp, .ref rd, .ref ri, .ref rs, .ref rk, .int ld, .int ud, .int sd])), (s0, .inr (2, [.int (nI ov), .int (nI st), .int (nI tk), .int (nI gv), .int hc, .int ew, .int sl, .int ca, .int (nI lc), .ref s1, .ref s2])), (s1, .inl (ks1, 24, .inl rm)), (s2, .inl (ks2, 60, .inl lw)), (b0, .inr (1, [.ref b1, .ref b2, .int (nI ltk), .int (nI lgv), .int lhc, .int lew, .int lsl, .int lsh, .ref b3, .ref b4, .ref b5, .ref b6])), (b1, .inl (kb1, 24, .inl pr)), (b2, .inl (kb2, 24, .inl lr)), (b3, .inl (kb3, 1525, .inl tb)), (b4, .inl (kb4, 25, .inl hi)), (b5, .inl (kb5, 24, .inl by_)), (b6, .inl (kb6, 24, .inl se))] U.heap ∧ va_K (dC, dI) vwCl [(ks1, .int), (ks2, .int), (kb1, .int), (kb2, .int), (kb3, .int), (kb4, .int), (kb5, .int), (kb6, .int)] U)) (va_Qi (fun r (_ : Unit) => (r = 0 ∧ True) ∨ (r = 1 ∧ ov ≤ h)) (fun _ _ => True) (fun _ => False)) 0 0 (fun _ => False) := by
  refine Met.ofW (cc := cX3_isPlanned) (maxL := 2) (ret := (some .boolean)) (by decide) rfl ?_
  intro p e s m args below meth c s₁ B hml hv
  obtain ⟨rfl, hP, hK⟩ := hv
  have hx := B.exec
  have hb := B.bytes
  have hr := B.returns
  have hts := atoms_spec (ws := wsX3_isPlanned) B.pre
  have hown : s.vm.findClass RX3 = some m.cls := findClass_of_methodNamed B.named
  have hlocks := B.notSynchronized
  have inX3 : ∀ w ∈ wsX30, w ∈ wsX3_isPlanned := fun _ h => List.mem_cons_of_mem _ (List.mem_append_left _ (List.mem_append_left _ (List.mem_append_right _ h)))
  have inX2 : ∀ w ∈ wsX20, w ∈ wsX3_isPlanned := fun _ h => List.mem_cons_of_mem _ (List.mem_append_left _ (List.mem_append_right _ h))
  have inX1 : ∀ w ∈ wsX10, w ∈ wsX3_isPlanned := fun _ h => List.mem_cons_of_mem _ (List.mem_append_right _ h)
  have hS : va_S (fun _ => False) s.heap s.heap [] := va_S.rf
  have hl := lv_entry ([.ref x0, .int (nI h)]) (n := 2) (Nat.le_of_ble_eq_true rfl)
  rw [lg_entry_eq]
  generalize (lg_sl ([.ref x0, .int (nI h)]) ++ List.replicate (2 - (lg_sl ([.ref x0, .int (nI h)])).length) Slot.unset).toArray = ls at hl ⊢
  generalize hQe : MQ below _ _ s 0 0 _ = Q
  generalize ([.ref x0, .int (nI h)] : List Value).toArray = args at hts hQe ⊢
  have hl : lv_has ls 2 [(0, .ref x0), (1, .int (nI h))] := hl
  refine lv_iload_n hx hb dX3_isPlanned_0 rfl (lv_at hl 1 rfl) ?_
  refine lv_aload_n hx hb dX3_isPlanned_1 rfl (lv_at hl 0 rfl) ?_
  refine va_get (D := (dC, dI)) (ci := 3) (v := .ref s0) (C := RX3) (T := TX3) (N := 11) hx hb hts inX3 hown hK hP 0 rfl rfl 0 (by decide) (hts (.fieldLink RX3 12 "StoreSlopes" "now" "LStoreSlopes$State;") (List.mem_of_getElem? (i := 1) rfl)) (fun _ h9 => h9) rfl dX3_isPlanned_2 ?_
  refine va_get (D := (dC, dI)) (ci := 2) (v := .int (nI ov)) (C := RX2) (T := TX2) (N := 11) hx hb hts inX2 hown hK hP 1 rfl rfl 0 (by decide) (hts (.fieldLink RX3 53 "StoreSlopes$State" "over" "I") (List.mem_of_getElem? (i := 2) rfl)) (fun _ h9 => h9) rfl dX3_isPlanned_5 ?_
  refine lv_icmp_lt (tgt := 26) hx hb dX3_isPlanned_8 (by decide) (fun c_8 => ?_) (fun c_8 => ?_)
  · have c_8 := (nI_ltI (by omega : h < 2 ^ 31) (by omega : ov < 2 ^ 31)).mp c_8
    refine lv_iconst (v := nI 0) hx hb dX3_isPlanned_26 (by decide) ?_
    subst hQe
    exact W.zret (v := (nI 0)) hx hb hr (by decide) (fun t ht hW => ⟨⟨_, (), rfl, Or.inl ⟨rfl, trivial⟩, trivial⟩, hS.F ht⟩) hS.2.2 dX3_isPlanned_27
  · have c_8 := (not_congr (nI_ltI (by omega : h < 2 ^ 31) (by omega : ov < 2 ^ 31))).mp c_8
    refine lv_aload_n hx hb dX3_isPlanned_11 rfl (lv_at hl 0 rfl) ?_
    refine lv_aload_n hx hb dX3_isPlanned_12 rfl (lv_at hl 0 rfl) ?_
    refine va_get (D := (dC, dI)) (ci := 3) (v := .ref b0) (C := RX3) (T := TX3) (N := 11) hx hb hts inX3 hown hK hP 0 rfl rfl 1 (by decide) (hts (.fieldLink RX3 19 "StoreSlopes" "asIs" "LStoreSlopes$Slopes;") (List.mem_of_getElem? (i := 3) rfl)) (fun _ h9 => h9) rfl dX3_isPlanned_13 ?_
    have hPc := hP.sub (ws' := [(x0, .inr (3, [.ref s0, .ref b0, .ref rt, .ref rp, .ref rd, .ref ri, .ref rs, .ref rk, .int ld, .int ud, .int sd])), (s0, .inr (2, [.int (nI ov), .int (nI st), .int (nI tk), .int (nI gv), .int hc, .int ew, .int sl, .int ca, .int (nI lc), .ref s1, .ref s2])), (s1, .inl (ks1, 24, .inl rm)), (s2, .inl (ks2, 60, .inl lw)), (b0, .inr (1, [.ref b1, .ref b2, .int (nI ltk), .int (nI lgv), .int lhc, .int lew, .int lsl, .int lsh, .ref b3, .ref b4, .ref b5, .ref b6])), (b1, .inl (kb1, 24, .inl pr)), (b2, .inl (kb2, 24, .inl lr)), (b3, .inl (kb3, 1525, .inl tb)), (b4, .inl (kb4, 25, .inl hi)), (b5, .inl (kb5, 24, .inl by_)), (b6, .inl (kb6, 24, .inl se))]) [0, 1, 2, 3, 4, 5, 6, 7, 8, 9, 10] rfl
    have hKc := hK.sub (tys' := [(ks1, .int), (ks2, .int), (kb1, .int), (kb2, .int), (kb3, .int), (kb4, .int), (kb5, .int), (kb6, .int)]) [0, 1, 2, 3, 4, 5, 6, 7] rfl
    refine va_calli (va_runV (As := [.ref b0]) (rest := []) ⟨hx, hb, hml, hown, hts⟩ (c_X3_hasPlan l dC dI x0 s0 s1 s2 b0 b1 b2 b3 b4 b5 b6 b0 rt rp rd ri rs rk ks1 ks2 kb1 kb2 kb3 kb4 kb5 kb6 ld ud sd ov st tk gv hc ew sl ca lc rm lw ltk lgv lhc lew lsl lsh pr lr tb hi by_ se  (by first | assumption | omega) (by first | assumption | omega) (by first | assumption | omega) (by first | assumption | omega) (by first | assumption | omega) (by first | assumption | omega) (by first | assumption | omega) (by first | assumption | omega) (by first | assumption | omega) (by first | assumption | omega) (by first | assumption | omega) (by first | assumption | omega) ) (cwV 1 hts gX3_isPlanned_X3_hasPlan rfl rfl rfl (by decide +kernel) ⟨Nat.le_of_ble_eq_true rfl, Nat.le_of_ble_eq_true rfl⟩) ⟨fun a U g mk q => by obtain ⟨q0, qP, qK⟩ := q; exact ⟨q0, qP, va_K.moved (u := U) (U := U.calling g mk a) (Vm.Alike.refl U.vm) qK⟩, va_recv hKc hPc (ci := 3) (q0 := 0) rfl rfl, fun U hU hW => ⟨rfl, by rw [hU]; exact hPc, va_K.moved hW.alike hKc⟩⟩ rfl rfl hl.1 rfl (lv_room (Nat.le_of_ble_eq_true rfl)) dX3_isPlanned_16 ⟨Nat.le_of_ble_eq_true rfl, Nat.le_of_ble_eq_true rfl⟩) hS (fun q _ h => h.elim) (fun q h => h.elim) (fun r_1 u t H1 locs ht hvm hw hB hz1 hk1 hS => ?_)
    refine W.widen (k := 0) (n := 0) (Nat.le_of_ble_eq_true rfl) (Nat.le_of_ble_eq_true rfl) ?_
    have hP := hP.kept (H1 := H1) (fun k q hk => hk1 q.1 (hP k q hk).lt (fun h => h))
    clear hz1 hk1 hB ht hvm t
    generalize H1 = H at hP hS ⊢
    have hP : va_P (dC, dI) vwCl [(x0, .inr (3, [.ref s0, .ref b0, .ref rt, .ref rp, .ref rd, .ref ri, .ref rs, .ref rk, .int ld, .int ud, .int sd])), (s0, .inr (2, [.int (nI ov), .int (nI st), .int (nI tk), .int (nI gv), .int hc, .int ew, .int sl, .int ca, .int (nI lc), .ref s1, .ref s2])), (s1, .inl (ks1, 24, .inl rm)), (s2, .inl (ks2, 60, .inl lw)), (b0, .inr (1, [.ref b1, .ref b2, .int (nI ltk), .int (nI lgv), .int lhc, .int lew, .int lsl, .int lsh, .ref b3, .ref b4, .ref b5, .ref b6])), (b1, .inl (kb1, 24, .inl pr)), (b2, .inl (kb2, 24, .inl lr)), (b3, .inl (kb3, 1525, .inl tb)), (b4, .inl (kb4, 25, .inl hi)), (b5, .inl (kb5, 24, .inl by_)), (b6, .inl (kb6, 24, .inl se))] H := hP
    clear hw
    refine lv_if_eq (tgt := 26) hx hb dX3_isPlanned_19 (by decide) (fun c_19 => ?_) (fun c_19 => ?_)
    · refine lv_iconst (v := nI 0) hx hb dX3_isPlanned_26 (by decide) ?_
      subst hQe
      exact W.zret (v := (nI 0)) hx hb hr (by decide) (fun t ht hW => ⟨⟨_, (), rfl, Or.inl ⟨rfl, trivial⟩, trivial⟩, hS.F ht⟩) hS.2.2 dX3_isPlanned_27
    · refine lv_iconst (v := nI 1) hx hb dX3_isPlanned_22 (by decide) ?_
      refine lv_goto (tgt := 27) hx hb dX3_isPlanned_23 (by decide) ?_
      subst hQe
      exact W.zret (v := (nI 1)) hx hb hr (by decide) (fun t ht hW => ⟨⟨_, (), rfl, Or.inr ⟨rfl, by omega⟩, trivial⟩, hS.F ht⟩) hS.2.2 dX3_isPlanned_27
set_option maxHeartbeats 4000000 in
set_option maxRecDepth 100000 in
theorem c_X3_plannedBefore (l : Launch) (dC : Nat → ClassId) (dI : Nat → Nat → Nat) (x0 s0 s1 s2 pl0 ra rt rd ri rs rk : Nat) (ks1 ks2 kp0 : ClassId) (ld : Int32) (ud : Int32) (sd : Int32) (ov : Nat) (st : Nat) (tk : Nat) (gv : Nat) (hc : Int32) (ew : Int32) (sl : Int32) (ca : Int32) (lc : Nat) (rm : Nat → Int32) (lw : Nat → Int32) (pn : Nat → Int32) (h : Nat) (i0 : ov ≤ 24) (i1 : st ≤ 60) (i2 : tk ≤ 9) (i3 : gv ≤ 9) (i4 : lc ≤ 12) (i5 : bdA 60 24 rm) (i6 : bdA 60 24 pn) (g0 : h ≤ 24) : Met l yX3_plannedBefore wsX3_plannedBefore ({ frames := 0, cells := 0, slots := 0, locals := 0 }) (va_Pc [.ref x0, .int (nI h)] (fun U => va_P (dC, dI) vwCl [(x0, .inr (3, [.ref s0, .ref ra, .ref rt, .ref pl0, .ref rd, .ref ri, .ref rs, .ref rk, .int ld, .int ud, .int sd])), (s0, .inr (2, [.int (nI ov), .int (nI st), .int (nI tk), .int (nI gv), .int hc, .int ew, .int sl, .int ca, .int (nI lc), .ref s1, .ref s2])), (s1, .inl (ks1, 24, .inl rm)), (s2, .inl (ks2, 60, .inl lw)), (pl0, .inl (kp0, 24, .inl pn))] U.heap ∧ va_K (dC, dI) vwCl [(ks1, .int), (ks2, .int), (kp0, .int)] U)) (va_Qi (fun r (_ : Unit) => True) (fun _ _ => True) (fun _ => False)) 0 0 (fun _ => False) := by
  refine Met.ofW (cc := cX3_plannedBefore) (maxL := 2) (ret := (some .int)) (by decide) rfl ?_
  intro p e s m args below meth c s₁ B hml hv
  obtain ⟨rfl, hP, hK⟩ := hv
  have hx := B.exec
  have hb := B.bytes
  have hr := B.returns
  have hts := atoms_spec (ws := wsX3_plannedBefore) B.pre
  have hown : s.vm.findClass RX3 = some m.cls := findClass_of_methodNamed B.named
  have hlocks := B.notSynchronized
  have inX3 : ∀ w ∈ wsX30, w ∈ wsX3_plannedBefore := fun _ h => List.mem_cons_of_mem _ (List.mem_append_left _ (List.mem_append_right _ h))
  have inX2 : ∀ w ∈ wsX20, w ∈ wsX3_plannedBefore := fun _ h => List.mem_cons_of_mem _ (List.mem_append_right _ h)
  have hS : va_S (fun _ => False) s.heap s.heap [] := va_S.rf
  have hl := lv_entry ([.ref x0, .int (nI h)]) (n := 2) (Nat.le_of_ble_eq_true rfl)
  rw [lg_entry_eq]
  generalize (lg_sl ([.ref x0, .int (nI h)]) ++ List.replicate (2 - (lg_sl ([.ref x0, .int (nI h)])).length) Slot.unset).toArray = ls at hl ⊢
  generalize hQe : MQ below _ _ s 0 0 _ = Q
  generalize ([.ref x0, .int (nI h)] : List Value).toArray = args at hts hQe ⊢
  have hl : lv_has ls 2 [(0, .ref x0), (1, .int (nI h))] := hl
  refine lv_iload_n hx hb dX3_plannedBefore_0 rfl (lv_at hl 1 rfl) ?_
  refine lv_aload_n hx hb dX3_plannedBefore_1 rfl (lv_at hl 0 rfl) ?_
  refine va_get (D := (dC, dI)) (ci := 3) (v := .ref s0) (C := RX3) (T := TX3) (N := 11) hx hb hts inX3 hown hK hP 0 rfl rfl 0 (by decide) (hts (.fieldLink RX3 12 "StoreSlopes" "now" "LStoreSlopes$State;") (List.mem_of_getElem? (i := 1) rfl)) (fun _ h9 => h9) rfl dX3_plannedBefore_2 ?_
  refine va_get (D := (dC, dI)) (ci := 2) (v := .int (nI ov)) (C := RX2) (T := TX2) (N := 11) hx hb hts inX2 hown hK hP 1 rfl rfl 0 (by decide) (hts (.fieldLink RX3 53 "StoreSlopes$State" "over" "I") (List.mem_of_getElem? (i := 2) rfl)) (fun _ h9 => h9) rfl dX3_plannedBefore_5 ?_
  refine lv_icmp_le (tgt := 22) hx hb dX3_plannedBefore_8 (by decide) (fun c_8 => ?_) (fun c_8 => ?_)
  · have c_8 := (nI_leI (by omega : h < 2 ^ 31) (by omega : ov < 2 ^ 31)).mp c_8
    refine lv_aload_n hx hb dX3_plannedBefore_22 rfl (lv_at hl 0 rfl) ?_
    refine va_get (D := (dC, dI)) (ci := 3) (v := .ref s0) (C := RX3) (T := TX3) (N := 11) hx hb hts inX3 hown hK hP 0 rfl rfl 0 (by decide) (hts (.fieldLink RX3 12 "StoreSlopes" "now" "LStoreSlopes$State;") (List.mem_of_getElem? (i := 1) rfl)) (fun _ h9 => h9) rfl dX3_plannedBefore_23 ?_
    refine va_get (D := (dC, dI)) (ci := 2) (v := .int (nI st)) (C := RX2) (T := TX2) (N := 11) hx hb hts inX2 hown hK hP 1 rfl rfl 1 (by decide) (hts (.fieldLink RX3 57 "StoreSlopes$State" "start" "I") (List.mem_of_getElem? (i := 4) rfl)) (fun _ h9 => h9) rfl dX3_plannedBefore_26 ?_
    subst hQe
    exact W.iret (v := (nI st)) hx hb hr (fun t ht hW => ⟨⟨_, (), rfl, trivial, trivial⟩, hS.F ht⟩) hS.2.2 dX3_plannedBefore_29
  · have c_8 := (not_congr (nI_leI (by omega : h < 2 ^ 31) (by omega : ov < 2 ^ 31))).mp c_8
    refine lv_aload_n hx hb dX3_plannedBefore_11 rfl (lv_at hl 0 rfl) ?_
    refine va_get (D := (dC, dI)) (ci := 3) (v := .ref pl0) (C := RX3) (T := TX3) (N := 11) hx hb hts inX3 hown hK hP 0 rfl rfl 3 (by decide) (hts (.fieldLink RX3 26 "StoreSlopes" "planned" "[I") (List.mem_of_getElem? (i := 3) rfl)) (fun _ h9 => h9) rfl dX3_plannedBefore_12 ?_
    refine lv_iload_n hx hb dX3_plannedBefore_15 rfl (lv_at hl 1 rfl) ?_
    refine lv_iconst (v := nI 1) hx hb dX3_plannedBefore_16 (by decide) ?_
    refine lv_isub hx hb dX3_plannedBefore_17 ?_
    refine tp_as (pk_sub (a := h) (b := 1) (by omega)) ?_
    refine va_iald hx hb hK hP 4 2 rfl rfl (vp_in_nI (show h - 1 < 24 by omega) (by omega)) dX3_plannedBefore_18 ?_
    obtain ⟨j_1, hj_1, ej_1⟩ := bdA_get (n := 60) (N := 24) (f := pn) (by assumption) (show h - 1 < 24 by omega) (by omega)
    refine tp_as ej_1 ?_
    refine lv_goto (tgt := 29) hx hb dX3_plannedBefore_19 (by decide) ?_
    subst hQe
    exact W.iret (v := (nI j_1)) hx hb hr (fun t ht hW => ⟨⟨_, (), rfl, trivial, trivial⟩, hS.F ht⟩) hS.2.2 dX3_plannedBefore_29
set_option maxHeartbeats 4000000 in
set_option maxRecDepth 100000 in
theorem c_X3_plannedTrade (l : Launch) (dC : Nat → ClassId) (dI : Nat → Nat → Nat) (x0 s0 s1 s2 pl0 ra rt rd ri rs rk : Nat) (ks1 ks2 kp0 : ClassId) (ld : Int32) (ud : Int32) (sd : Int32) (ov : Nat) (st : Nat) (tk : Nat) (gv : Nat) (hc : Int32) (ew : Int32) (sl : Int32) (ca : Int32) (lc : Nat) (rm : Nat → Int32) (lw : Nat → Int32) (pn : Nat → Int32) (sg : Int32) (i0 : ov ≤ 24) (i1 : st ≤ 60) (i2 : tk ≤ 9) (i3 : gv ≤ 9) (i4 : lc ≤ 12) (i5 : bdA 60 24 rm) (i6 : bdA 60 24 pn) : Met l yX3_plannedTrade wsX3_plannedTrade ({ frames := 1, cells := 0, slots := 0, locals := 21 }) (va_Pc [.ref x0, .int sg] (fun U => va_P (dC, dI) vwCl [(x0, .inr (3, [.ref s0, .ref ra, .ref rt, .ref pl0, .ref rd, .ref ri, .ref rs, .ref rk, .int ld, .int ud, .int sd])), (s0, .inr (2, [.int (nI ov), .int (nI st), .int (nI tk), .int (nI gv), .int hc, .int ew, .int sl, .int ca, .int (nI lc), .ref s1, .ref s2])), (s1, .inl (ks1, 24, .inl rm)), (s2, .inl (ks2, 60, .inl lw)), (pl0, .inl (kp0, 24, .inl pn))] U.heap ∧ va_K (dC, dI) vwCl [(ks1, .int), (ks2, .int), (kp0, .int)] U)) (va_Qi (fun r (_ : Unit) => True) (fun _ _ => True) (fun _ => False)) 0 0 (fun _ => False) := by
  refine Met.ofW (cc := cX3_plannedTrade) (maxL := 4) (ret := (some .int)) (by decide) rfl ?_
  intro p e s m args below meth c s₁ B hml hv
  obtain ⟨rfl, hP, hK⟩ := hv
  have hx := B.exec
  have hb := B.bytes
  have hr := B.returns
  have hts := atoms_spec (ws := wsX3_plannedTrade) B.pre
  have hown : s.vm.findClass RX3 = some m.cls := findClass_of_methodNamed B.named
  have hlocks := B.notSynchronized
  have inX3 : ∀ w ∈ wsX30, w ∈ wsX3_plannedTrade := fun _ h => List.mem_cons_of_mem _ (List.mem_append_left _ (List.mem_append_right _ h))
  have inX2 : ∀ w ∈ wsX20, w ∈ wsX3_plannedTrade := fun _ h => List.mem_cons_of_mem _ (List.mem_append_right _ h)
  have hS : va_S (fun _ => False) s.heap s.heap [] := va_S.rf
  have hl := lv_entry ([.ref x0, .int sg]) (n := 4) (Nat.le_of_ble_eq_true rfl)
  rw [lg_entry_eq]
  generalize (lg_sl ([.ref x0, .int sg]) ++ List.replicate (4 - (lg_sl ([.ref x0, .int sg])).length) Slot.unset).toArray = ls at hl ⊢
  generalize hQe : MQ below _ _ s 0 0 _ = Q
  generalize ([.ref x0, .int sg] : List Value).toArray = args at hts hQe ⊢
  have hl : lv_has ls 4 [(0, .ref x0), (1, .int sg)] := hl
  refine lv_iconst (v := nI 0) hx hb dX3_plannedTrade_0 (by decide) ?_
  refine lv_istore_n (lv' := [(2, .int (nI 0)), (0, .ref x0), (1, .int sg)]) hx hb dX3_plannedTrade_1 rfl hl (by decide) rfl (fun ls hl => ?_)
  refine lv_aload_n hx hb dX3_plannedTrade_2 rfl (lv_at hl 1 rfl) ?_
  refine va_get (D := (dC, dI)) (ci := 3) (v := .ref s0) (C := RX3) (T := TX3) (N := 11) hx hb hts inX3 hown hK hP 0 rfl rfl 0 (by decide) (hts (.fieldLink RX3 12 "StoreSlopes" "now" "LStoreSlopes$State;") (List.mem_of_getElem? (i := 1) rfl)) (fun _ h9 => h9) rfl dX3_plannedTrade_3 ?_
  refine va_get (D := (dC, dI)) (ci := 2) (v := .int (nI ov)) (C := RX2) (T := TX2) (N := 11) hx hb hts inX2 hown hK hP 1 rfl rfl 0 (by decide) (hts (.fieldLink RX3 53 "StoreSlopes$State" "over" "I") (List.mem_of_getElem? (i := 2) rfl)) (fun _ h9 => h9) rfl dX3_plannedTrade_6 ?_
  refine lv_istore_n (lv' := [(3, .int (nI ov)), (2, .int (nI 0)), (0, .ref x0), (1, .int sg)]) hx hb dX3_plannedTrade_9 rfl hl (by decide) rfl (fun ls hl => ?_)
  have L10 : ∀ (n : Nat) (i : Nat) (q : Int32) (H : Heap) (locs : List Loc) (ls : Array Slot), i ≤ 24 → 24 - i < n → va_P (dC, dI) vwCl [(x0, .inr (3, [.ref s0, .ref ra, .ref rt, .ref pl0, .ref rd, .ref ri, .ref rs, .ref rk, .int ld, .int ud, .int sd])), (s0, .inr (2, [.int (nI ov), .int (nI st), .int (nI tk), .int (nI gv), .int hc, .int ew, .int sl, .int ca, .int (nI lc), .ref s1, .ref s2])), (s1, .inl (ks1, 24, .inl rm)), (s2, .inl (ks2, 60, .inl lw)), (pl0, .inl (kp0, 24, .inl pn))] H → va_S (fun _ => False) s.heap H locs → lv_has ls 4 [(0, .ref x0), (1, .int sg), (2, .int q), (3, .int (nI i))] → W p l e (headSpec wsX3_plannedTrade { frames := 1, cells := 0, slots := 0, locals := 21 }).room s m args below meth c H locs 0 0 Q (F0 m 10 ls []) := by
    intro n
    induction n with
    | zero => intro i q H locs ls hL10_0 hn; exact absurd hn (Nat.not_lt_zero _)
    | succ n ih =>
      intro i q H locs ls hL10_0 hn hP hS hl
      refine lv_iload_n hx hb dX3_plannedTrade_10 rfl (lv_at hl 3 rfl) ?_
      refine lv_bipush (v := nI 24) hx hb dX3_plannedTrade_11 (by decide) ?_
      refine lv_icmp_ge (tgt := 43) hx hb dX3_plannedTrade_13 (by decide) (fun c_13 => ?_) (fun c_13 => ?_)
      · have c_13 := (nI_leI (by omega : 24 < 2 ^ 31) (by omega : i < 2 ^ 31)).mp c_13
        refine lv_iload_n hx hb dX3_plannedTrade_43 rfl (lv_at hl 2 rfl) ?_
        subst hQe
        exact W.iret (v := q) hx hb hr (fun t ht hW => ⟨⟨_, (), rfl, trivial, trivial⟩, hS.F ht⟩) hS.2.2 dX3_plannedTrade_44
      · have c_13 := (not_congr (nI_leI (by omega : 24 < 2 ^ 31) (by omega : i < 2 ^ 31))).mp c_13
        refine lv_iload_n hx hb dX3_plannedTrade_16 rfl (lv_at hl 2 rfl) ?_
        refine lv_iconst (v := nI 0) hx hb dX3_plannedTrade_17 (by decide) ?_
        refine lv_iload_n hx hb dX3_plannedTrade_18 rfl (lv_at hl 1 rfl) ?_
        refine lv_aload_n hx hb dX3_plannedTrade_19 rfl (lv_at hl 0 rfl) ?_
        refine va_get (D := (dC, dI)) (ci := 3) (v := .ref pl0) (C := RX3) (T := TX3) (N := 11) hx hb hts inX3 hown hK hP 0 rfl rfl 3 (by decide) (hts (.fieldLink RX3 26 "StoreSlopes" "planned" "[I") (List.mem_of_getElem? (i := 3) rfl)) (fun _ h9 => h9) rfl dX3_plannedTrade_20 ?_
        refine lv_iload_n hx hb dX3_plannedTrade_23 rfl (lv_at hl 3 rfl) ?_
        refine va_iald hx hb hK hP 4 2 rfl rfl (vp_in_nI (show i < 24 by omega) (by omega)) dX3_plannedTrade_24 ?_
        obtain ⟨j_1, hj_1, ej_1⟩ := bdA_get (n := 60) (N := 24) (f := pn) (by assumption) (show i < 24 by omega) (by omega)
        refine tp_as ej_1 ?_
        refine lv_aload_n hx hb dX3_plannedTrade_25 rfl (lv_at hl 0 rfl) ?_
        refine lv_iload_n hx hb dX3_plannedTrade_26 rfl (lv_at hl 3 rfl) ?_
        have hPc := hP.sub (ws' := [(x0, .inr (3, [.ref s0, .ref ra, .ref rt, .ref pl0, .ref rd, .ref ri, .ref rs, .ref rk, .int ld, .int ud, .int sd])), (s0, .inr (2, [.int (nI ov), .int (nI st), .int (nI tk), .int (nI gv), .int hc, .int ew, .int sl, .int ca, .int (nI lc), .ref s1, .ref s2])), (s1, .inl (ks1, 24, .inl rm)), (s2, .inl (ks2, 60, .inl lw)), (pl0, .inl (kp0, 24, .inl pn))]) [0, 1, 2, 3, 4] rfl
        have hKc := hK.sub (tys' := [(ks1, .int), (ks2, .int), (kp0, .int)]) [0, 1, 2] rfl
        refine va_calli (va_runV (As := [.int (nI i)]) (rest := [.int (nI j_1), .int sg, .int (nI 0), .int q]) ⟨hx, hb, hml, hown, hts⟩ (c_X3_plannedBefore l dC dI x0 s0 s1 s2 pl0 ra rt rd ri rs rk ks1 ks2 kp0 ld ud sd ov st tk gv hc ew sl ca lc rm lw pn i (by first | assumption | omega) (by first | assumption | omega) (by first | assumption | omega) (by first | assumption | omega) (by first | assumption | omega) (by first | assumption | omega) (by first | assumption | omega) (by first | assumption | omega)) (cwV 1 hts gX3_plannedTrade_X3_plannedBefore rfl rfl rfl (by decide +kernel) ⟨Nat.le_of_ble_eq_true rfl, Nat.le_of_ble_eq_true rfl⟩) ⟨fun a U g mk q => by obtain ⟨q0, qP, qK⟩ := q; exact ⟨q0, qP, va_K.moved (u := U) (U := U.calling g mk a) (Vm.Alike.refl U.vm) qK⟩, va_recv hKc hPc (ci := 3) (q0 := 0) rfl rfl, fun U hU hW => ⟨rfl, by rw [hU]; exact hPc, va_K.moved hW.alike hKc⟩⟩ rfl rfl hl.1 rfl (lv_room (Nat.le_of_ble_eq_true rfl)) dX3_plannedTrade_27 ⟨Nat.le_of_ble_eq_true rfl, Nat.le_of_ble_eq_true rfl⟩) hS (fun q _ h => h.elim) (fun q h => h.elim) (fun r_2 u t H1 locs ht hvm hw hB hz1 hk1 hS => ?_)
        refine W.widen (k := 0) (n := 0) (Nat.le_of_ble_eq_true rfl) (Nat.le_of_ble_eq_true rfl) ?_
        have hP := hP.kept (H1 := H1) (fun k q hk => hk1 q.1 (hP k q hk).lt (fun h => h))
        clear hz1 hk1 hB ht hvm t
        generalize H1 = H at hP hS ⊢
        have hP : va_P (dC, dI) vwCl [(x0, .inr (3, [.ref s0, .ref ra, .ref rt, .ref pl0, .ref rd, .ref ri, .ref rs, .ref rk, .int ld, .int ud, .int sd])), (s0, .inr (2, [.int (nI ov), .int (nI st), .int (nI tk), .int (nI gv), .int hc, .int ew, .int sl, .int ca, .int (nI lc), .ref s1, .ref s2])), (s1, .inl (ks1, 24, .inl rm)), (s2, .inl (ks2, 60, .inl lw)), (pl0, .inl (kp0, 24, .inl pn))] H := hP
        clear hw
        refine lv_isub hx hb dX3_plannedTrade_30 ?_
        refine tp_any (fun y_3 => ?_)
        refine lv_imul hx hb dX3_plannedTrade_31 ?_
        refine tp_any (fun y_4 => ?_)
        refine va_mmax hx hb (hml.trans hl.1.symm) (own := RX3) hown (hts (.methodLink RX3 194 Lib.Math.max.name) (List.mem_of_getElem? (i := 4) rfl)) (hts (.static Lib.Math.max.name) (List.mem_of_getElem? (i := 5) rfl)) (hts (.initialized "java/lang/Math") (List.mem_of_getElem? (i := 6) rfl)) (hts (.code Lib.Math.max.name Lib.Math.max.code 2 (some .int)) (List.mem_of_getElem? (i := 7) rfl)) (Nat.le_of_ble_eq_true rfl) (Nat.le_of_ble_eq_true rfl) (Nat.le_of_ble_eq_true rfl) (Nat.le_of_ble_eq_true rfl) dX3_plannedTrade_32 ?_
        refine tp_any (fun y_5 => ?_)
        refine lv_iadd hx hb dX3_plannedTrade_35 ?_
        refine tp_any (fun y_6 => ?_)
        refine lv_istore_n (lv' := [(2, .int y_6), (0, .ref x0), (1, .int sg), (3, .int (nI i))]) hx hb dX3_plannedTrade_36 rfl hl (by decide) rfl (fun ls hl => ?_)
        refine lv_iinc (v := nI (i + 1)) (lv' := [(3, .int (nI (i + 1))), (2, .int y_6), (0, .ref x0), (1, .int sg)]) hx hb dX3_plannedTrade_37 hl (k := 3) rfl (inc_n i 1) (by decide) rfl (fun ls hl => ?_)
        refine lv_goto (tgt := 10) hx hb dX3_plannedTrade_40 (by decide) ?_
        exact ih (i + 1) y_6 _ _ _ (by first | assumption | omega) (by omega) hP hS (lv_sub hl [2, 3, 1, 0] rfl)
  exact L10 (24 - ov + 1) ov (nI 0) _ _ _ (by first | assumption | omega) (Nat.lt_succ_self _) hP hS (lv_sub hl [2, 3, 1, 0] rfl)
set_option maxHeartbeats 4000000 in
set_option maxRecDepth 100000 in
theorem c_X3_trialBuysIn (l : Launch) (dC : Nat → ClassId) (dI : Nat → Nat → Nat) (x0 s0 s1 s2 b0 b1 b2 b3 b4 b5 b6 ra rp rd ri rs rk : Nat) (ks1 ks2 kb1 kb2 kb3 kb4 kb5 kb6 : ClassId) (ld : Int32) (ud : Int32) (sd : Int32) (ov : Nat) (st : Nat) (tk : Nat) (gv : Nat) (hc : Int32) (ew : Int32) (sl : Int32) (ca : Int32) (lc : Nat) (rm : Nat → Int32) (lw : Nat → Int32) (ltk : Nat) (lgv : Nat) (lhc : Int32) (lew : Int32) (lsl : Int32) (lsh : Int32) (pr : Nat → Int32) (lr : Nat → Int32) (tb : Nat → Int32) (hi : Nat → Int32) (by_ : Nat → Int32) (se : Nat → Int32) (h : Nat) (i0 : ov ≤ 24) (i1 : st ≤ 60) (i2 : tk ≤ 9) (i3 : gv ≤ 9) (i4 : lc ≤ 12) (i5 : bdA 60 24 rm) (i6 : ltk ≤ 9) (i7 : lgv ≤ 9) (i8 : bdA 60 24 lr) (i9 : bdA 60 25 hi) (i10 : bdA 60 24 by_) (i11 : bdA 60 24 se) (g0 : h < 24) : Met l yX3_trialBuysIn wsX3_trialBuysIn ({ frames := 2, cells := 0, slots := 0, locals := 43 }) (va_Pc [.ref x0, .int (nI h)] (fun U => va_P (dC, dI) vwCl [(x0, .inr (3, [.ref s0, .ref ra, .ref b0, .ref rp, .ref rd, .ref ri, .ref rs, .ref rk, .int ld, .int ud, .int sd])), (s0, .inr (2, [.int (nI ov), .int (nI st), .int (nI tk), .int (nI gv), .int hc, .int ew, .int sl, .int ca, .int (nI lc), .ref s1, .ref s2])), (s1, .inl (ks1, 24, .inl rm)), (s2, .inl (ks2, 60, .inl lw)), (b0, .inr (1, [.ref b1, .ref b2, .int (nI ltk), .int (nI lgv), .int lhc, .int lew, .int lsl, .int lsh, .ref b3, .ref b4, .ref b5, .ref b6])), (b1, .inl (kb1, 24, .inl pr)), (b2, .inl (kb2, 24, .inl lr)), (b3, .inl (kb3, 1525, .inl tb)), (b4, .inl (kb4, 25, .inl hi)), (b5, .inl (kb5, 24, .inl by_)), (b6, .inl (kb6, 24, .inl se))] U.heap ∧ va_K (dC, dI) vwCl [(ks1, .int), (ks2, .int), (kb1, .int), (kb2, .int), (kb3, .int), (kb4, .int), (kb5, .int), (kb6, .int)] U)) (va_Qi (fun r (_ : Unit) => True) (fun _ _ => True) (fun _ => False)) 0 0 (fun _ => False) := by
  refine Met.ofW (cc := cX3_trialBuysIn) (maxL := 4) (ret := (some .boolean)) (by decide) rfl ?_
  intro p e s m args below meth c s₁ B hml hv
  obtain ⟨rfl, hP, hK⟩ := hv
  have hx := B.exec
  have hb := B.bytes
  have hr := B.returns
  have hts := atoms_spec (ws := wsX3_trialBuysIn) B.pre
  have hown : s.vm.findClass RX3 = some m.cls := findClass_of_methodNamed B.named
  have hlocks := B.notSynchronized
  have inX3 : ∀ w ∈ wsX30, w ∈ wsX3_trialBuysIn := fun _ h => List.mem_cons_of_mem _ (List.mem_append_left _ (List.mem_append_left _ (List.mem_append_right _ h)))
  have inX2 : ∀ w ∈ wsX20, w ∈ wsX3_trialBuysIn := fun _ h => List.mem_cons_of_mem _ (List.mem_append_left _ (List.mem_append_right _ h))
  have inX1 : ∀ w ∈ wsX10, w ∈ wsX3_trialBuysIn := fun _ h => List.mem_cons_of_mem _ (List.mem_append_right _ h)
  have hS : va_S (fun _ => False) s.heap s.heap [] := va_S.rf
  have hl := lv_entry ([.ref x0, .int (nI h)]) (n := 4) (Nat.le_of_ble_eq_true rfl)
  rw [lg_entry_eq]
  generalize (lg_sl ([.ref x0, .int (nI h)]) ++ List.replicate (4 - (lg_sl ([.ref x0, .int (nI h)])).length) Slot.unset).toArray = ls at hl ⊢
  generalize hQe : MQ below _ _ s 0 0 _ = Q
  generalize ([.ref x0, .int (nI h)] : List Value).toArray = args at hts hQe ⊢
  have hl : lv_has ls 4 [(0, .ref x0), (1, .int (nI h))] := hl
  refine lv_aload_n hx hb dX3_trialBuysIn_0 rfl (lv_at hl 0 rfl) ?_
  refine va_get (D := (dC, dI)) (ci := 3) (v := .ref s0) (C := RX3) (T := TX3) (N := 11) hx hb hts inX3 hown hK hP 0 rfl rfl 0 (by decide) (hts (.fieldLink RX3 12 "StoreSlopes" "now" "LStoreSlopes$State;") (List.mem_of_getElem? (i := 1) rfl)) (fun _ h9 => h9) rfl dX3_trialBuysIn_1 ?_
  refine va_get (D := (dC, dI)) (ci := 2) (v := .int (nI st)) (C := RX2) (T := TX2) (N := 11) hx hb hts inX2 hown hK hP 1 rfl rfl 1 (by decide) (hts (.fieldLink RX3 57 "StoreSlopes$State" "start" "I") (List.mem_of_getElem? (i := 2) rfl)) (fun _ h9 => h9) rfl dX3_trialBuysIn_4 ?_
  refine lv_istore_n (lv' := [(2, .int (nI st)), (0, .ref x0), (1, .int (nI h))]) hx hb dX3_trialBuysIn_7 rfl hl (by decide) rfl (fun ls hl => ?_)
  refine lv_aload_n hx hb dX3_trialBuysIn_8 rfl (lv_at hl 1 rfl) ?_
  refine va_get (D := (dC, dI)) (ci := 3) (v := .ref s0) (C := RX3) (T := TX3) (N := 11) hx hb hts inX3 hown hK hP 0 rfl rfl 0 (by decide) (hts (.fieldLink RX3 12 "StoreSlopes" "now" "LStoreSlopes$State;") (List.mem_of_getElem? (i := 1) rfl)) (fun _ h9 => h9) rfl dX3_trialBuysIn_9 ?_
  refine va_get (D := (dC, dI)) (ci := 2) (v := .int (nI ov)) (C := RX2) (T := TX2) (N := 11) hx hb hts inX2 hown hK hP 1 rfl rfl 0 (by decide) (hts (.fieldLink RX3 53 "StoreSlopes$State" "over" "I") (List.mem_of_getElem? (i := 3) rfl)) (fun _ h9 => h9) rfl dX3_trialBuysIn_12 ?_
  refine lv_istore_n (lv' := [(3, .int (nI ov)), (2, .int (nI st)), (0, .ref x0), (1, .int (nI h))]) hx hb dX3_trialBuysIn_15 rfl hl (by decide) rfl (fun ls hl => ?_)
  have L16 : ∀ (n : Nat) (i : Nat) (y : Nat) (H : Heap) (locs : List Loc) (ls : Array Slot), i ≤ 24 → y ≤ 60 → 24 - i < n → va_P (dC, dI) vwCl [(x0, .inr (3, [.ref s0, .ref ra, .ref b0, .ref rp, .ref rd, .ref ri, .ref rs, .ref rk, .int ld, .int ud, .int sd])), (s0, .inr (2, [.int (nI ov), .int (nI st), .int (nI tk), .int (nI gv), .int hc, .int ew, .int sl, .int ca, .int (nI lc), .ref s1, .ref s2])), (s1, .inl (ks1, 24, .inl rm)), (s2, .inl (ks2, 60, .inl lw)), (b0, .inr (1, [.ref b1, .ref b2, .int (nI ltk), .int (nI lgv), .int lhc, .int lew, .int lsl, .int lsh, .ref b3, .ref b4, .ref b5, .ref b6])), (b1, .inl (kb1, 24, .inl pr)), (b2, .inl (kb2, 24, .inl lr)), (b3, .inl (kb3, 1525, .inl tb)), (b4, .inl (kb4, 25, .inl hi)), (b5, .inl (kb5, 24, .inl by_)), (b6, .inl (kb6, 24, .inl se))] H → va_S (fun _ => False) s.heap H locs → lv_has ls 4 [(0, .ref x0), (1, .int (nI h)), (2, .int (nI y)), (3, .int (nI i))] → W p l e (headSpec wsX3_trialBuysIn { frames := 2, cells := 0, slots := 0, locals := 43 }).room s m args below meth c H locs 0 0 Q (F0 m 16 ls []) := by
    intro n
    induction n with
    | zero => intro i y H locs ls hL16_0 hL16_1 hn; exact absurd hn (Nat.not_lt_zero _)
    | succ n ih =>
      intro i y H locs ls hL16_0 hL16_1 hn hP hS hl
      refine lv_iload_n hx hb dX3_trialBuysIn_16 rfl (lv_at hl 3 rfl) ?_
      refine lv_iload_n hx hb dX3_trialBuysIn_17 rfl (lv_at hl 1 rfl) ?_
      refine lv_icmp_ge (tgt := 37) hx hb dX3_trialBuysIn_18 (by decide) (fun c_18 => ?_) (fun c_18 => ?_)
      · have c_18 := (nI_leI (by omega : h < 2 ^ 31) (by omega : i < 2 ^ 31)).mp c_18
        refine lv_aload_n hx hb dX3_trialBuysIn_37 rfl (lv_at hl 0 rfl) ?_
        refine va_get (D := (dC, dI)) (ci := 3) (v := .ref b0) (C := RX3) (T := TX3) (N := 11) hx hb hts inX3 hown hK hP 0 rfl rfl 2 (by decide) (hts (.fieldLink RX3 23 "StoreSlopes" "trial" "LStoreSlopes$Slopes;") (List.mem_of_getElem? (i := 4) rfl)) (fun _ h9 => h9) rfl dX3_trialBuysIn_38 ?_
        refine lv_iload_n hx hb dX3_trialBuysIn_41 rfl (lv_at hl 1 rfl) ?_
        refine lv_iload_n hx hb dX3_trialBuysIn_42 rfl (lv_at hl 2 rfl) ?_
        have hPc := hP.sub (ws' := [(b0, .inr (1, [.ref b1, .ref b2, .int (nI ltk), .int (nI lgv), .int lhc, .int lew, .int lsl, .int lsh, .ref b3, .ref b4, .ref b5, .ref b6])), (b1, .inl (kb1, 24, .inl pr)), (b2, .inl (kb2, 24, .inl lr)), (b3, .inl (kb3, 1525, .inl tb)), (b4, .inl (kb4, 25, .inl hi)), (b5, .inl (kb5, 24, .inl by_)), (b6, .inl (kb6, 24, .inl se))]) [4, 5, 6, 7, 8, 9, 10] rfl
        have hKc := hK.sub (tys' := [(kb1, .int), (kb2, .int), (kb3, .int), (kb4, .int), (kb5, .int), (kb6, .int)]) [2, 3, 4, 5, 6, 7] rfl
        refine va_calli (va_runV (As := [.int (nI h), .int (nI y)]) (rest := []) ⟨hx, hb, hml, hown, hts⟩ (c_X1_next l dC dI b0 b1 b2 b3 b4 b5 b6 kb1 kb2 kb3 kb4 kb5 kb6 ltk lgv lhc lew lsl lsh pr lr tb hi by_ se h y (by first | assumption | omega) (by first | assumption | omega) (by first | assumption | omega) (by first | assumption | omega) (by first | assumption | omega) (by first | assumption | omega) (by first | assumption | omega) (by first | assumption | omega)) (cwV 2 hts gX3_trialBuysIn_X1_next rfl rfl rfl (by decide +kernel) ⟨Nat.le_of_ble_eq_true rfl, Nat.le_of_ble_eq_true rfl⟩) ⟨fun a U g mk q => by obtain ⟨q0, qP, qK⟩ := q; exact ⟨q0, qP, va_K.moved (u := U) (U := U.calling g mk a) (Vm.Alike.refl U.vm) qK⟩, va_recv hKc hPc (ci := 1) (q0 := 0) rfl rfl, fun U hU hW => ⟨rfl, by rw [hU]; exact hPc, va_K.moved hW.alike hKc⟩⟩ rfl rfl hl.1 rfl (lv_room (Nat.le_of_ble_eq_true rfl)) dX3_trialBuysIn_43 ⟨Nat.le_of_ble_eq_true rfl, Nat.le_of_ble_eq_true rfl⟩) hS (fun q _ h => h.elim) (fun q h => h.elim) (fun r_1 u t H1 locs ht hvm hw hB hz1 hk1 hS => ?_)
        refine W.widen (k := 0) (n := 0) (Nat.le_of_ble_eq_true rfl) (Nat.le_of_ble_eq_true rfl) ?_
        have hP := hP.kept (H1 := H1) (fun k q hk => hk1 q.1 (hP k q hk).lt (fun h => h))
        clear hz1 hk1 hB ht hvm t
        generalize H1 = H at hP hS ⊢
        have hP : va_P (dC, dI) vwCl [(x0, .inr (3, [.ref s0, .ref ra, .ref b0, .ref rp, .ref rd, .ref ri, .ref rs, .ref rk, .int ld, .int ud, .int sd])), (s0, .inr (2, [.int (nI ov), .int (nI st), .int (nI tk), .int (nI gv), .int hc, .int ew, .int sl, .int ca, .int (nI lc), .ref s1, .ref s2])), (s1, .inl (ks1, 24, .inl rm)), (s2, .inl (ks2, 60, .inl lw)), (b0, .inr (1, [.ref b1, .ref b2, .int (nI ltk), .int (nI lgv), .int lhc, .int lew, .int lsl, .int lsh, .ref b3, .ref b4, .ref b5, .ref b6])), (b1, .inl (kb1, 24, .inl pr)), (b2, .inl (kb2, 24, .inl lr)), (b3, .inl (kb3, 1525, .inl tb)), (b4, .inl (kb4, 25, .inl hi)), (b5, .inl (kb5, 24, .inl by_)), (b6, .inl (kb6, 24, .inl se))] H := hP
        obtain ⟨j_2, hj_2, rfl⟩ := hw
        refine lv_iload_n hx hb dX3_trialBuysIn_46 rfl (lv_at hl 2 rfl) ?_
        refine lv_icmp_le (tgt := 54) hx hb dX3_trialBuysIn_47 (by decide) (fun c_47 => ?_) (fun c_47 => ?_)
        · have c_47 := (nI_leI (by omega : j_2 < 2 ^ 31) (by omega : y < 2 ^ 31)).mp c_47
          refine lv_iconst (v := nI 0) hx hb dX3_trialBuysIn_54 (by decide) ?_
          subst hQe
          exact W.zret (v := (nI 0)) hx hb hr (by decide) (fun t ht hW => ⟨⟨_, (), rfl, trivial, trivial⟩, hS.F ht⟩) hS.2.2 dX3_trialBuysIn_55
        · have c_47 := (not_congr (nI_leI (by omega : j_2 < 2 ^ 31) (by omega : y < 2 ^ 31))).mp c_47
          refine lv_iconst (v := nI 1) hx hb dX3_trialBuysIn_50 (by decide) ?_
          refine lv_goto (tgt := 55) hx hb dX3_trialBuysIn_51 (by decide) ?_
          subst hQe
          exact W.zret (v := (nI 1)) hx hb hr (by decide) (fun t ht hW => ⟨⟨_, (), rfl, trivial, trivial⟩, hS.F ht⟩) hS.2.2 dX3_trialBuysIn_55
      · have c_18 := (not_congr (nI_leI (by omega : h < 2 ^ 31) (by omega : i < 2 ^ 31))).mp c_18
        refine lv_aload_n hx hb dX3_trialBuysIn_21 rfl (lv_at hl 0 rfl) ?_
        refine va_get (D := (dC, dI)) (ci := 3) (v := .ref b0) (C := RX3) (T := TX3) (N := 11) hx hb hts inX3 hown hK hP 0 rfl rfl 2 (by decide) (hts (.fieldLink RX3 23 "StoreSlopes" "trial" "LStoreSlopes$Slopes;") (List.mem_of_getElem? (i := 4) rfl)) (fun _ h9 => h9) rfl dX3_trialBuysIn_22 ?_
        refine lv_iload_n hx hb dX3_trialBuysIn_25 rfl (lv_at hl 3 rfl) ?_
        refine lv_iload_n hx hb dX3_trialBuysIn_26 rfl (lv_at hl 2 rfl) ?_
        have hPc := hP.sub (ws' := [(b0, .inr (1, [.ref b1, .ref b2, .int (nI ltk), .int (nI lgv), .int lhc, .int lew, .int lsl, .int lsh, .ref b3, .ref b4, .ref b5, .ref b6])), (b1, .inl (kb1, 24, .inl pr)), (b2, .inl (kb2, 24, .inl lr)), (b3, .inl (kb3, 1525, .inl tb)), (b4, .inl (kb4, 25, .inl hi)), (b5, .inl (kb5, 24, .inl by_)), (b6, .inl (kb6, 24, .inl se))]) [4, 5, 6, 7, 8, 9, 10] rfl
        have hKc := hK.sub (tys' := [(kb1, .int), (kb2, .int), (kb3, .int), (kb4, .int), (kb5, .int), (kb6, .int)]) [2, 3, 4, 5, 6, 7] rfl
        refine va_calli (va_runV (As := [.int (nI i), .int (nI y)]) (rest := []) ⟨hx, hb, hml, hown, hts⟩ (c_X1_next l dC dI b0 b1 b2 b3 b4 b5 b6 kb1 kb2 kb3 kb4 kb5 kb6 ltk lgv lhc lew lsl lsh pr lr tb hi by_ se i y (by first | assumption | omega) (by first | assumption | omega) (by first | assumption | omega) (by first | assumption | omega) (by first | assumption | omega) (by first | assumption | omega) (by first | assumption | omega) (by first | assumption | omega)) (cwV 2 hts gX3_trialBuysIn_X1_next rfl rfl rfl (by decide +kernel) ⟨Nat.le_of_ble_eq_true rfl, Nat.le_of_ble_eq_true rfl⟩) ⟨fun a U g mk q => by obtain ⟨q0, qP, qK⟩ := q; exact ⟨q0, qP, va_K.moved (u := U) (U := U.calling g mk a) (Vm.Alike.refl U.vm) qK⟩, va_recv hKc hPc (ci := 1) (q0 := 0) rfl rfl, fun U hU hW => ⟨rfl, by rw [hU]; exact hPc, va_K.moved hW.alike hKc⟩⟩ rfl rfl hl.1 rfl (lv_room (Nat.le_of_ble_eq_true rfl)) dX3_trialBuysIn_27 ⟨Nat.le_of_ble_eq_true rfl, Nat.le_of_ble_eq_true rfl⟩) hS (fun q _ h => h.elim) (fun q h => h.elim) (fun r_3 u t H1 locs ht hvm hw hB hz1 hk1 hS => ?_)
        refine W.widen (k := 0) (n := 0) (Nat.le_of_ble_eq_true rfl) (Nat.le_of_ble_eq_true rfl) ?_
        have hP := hP.kept (H1 := H1) (fun k q hk => hk1 q.1 (hP k q hk).lt (fun h => h))
        clear hz1 hk1 hB ht hvm t
        generalize H1 = H at hP hS ⊢
        have hP : va_P (dC, dI) vwCl [(x0, .inr (3, [.ref s0, .ref ra, .ref b0, .ref rp, .ref rd, .ref ri, .ref rs, .ref rk, .int ld, .int ud, .int sd])), (s0, .inr (2, [.int (nI ov), .int (nI st), .int (nI tk), .int (nI gv), .int hc, .int ew, .int sl, .int ca, .int (nI lc), .ref s1, .ref s2])), (s1, .inl (ks1, 24, .inl rm)), (s2, .inl (ks2, 60, .inl lw)), (b0, .inr (1, [.ref b1, .ref b2, .int (nI ltk), .int (nI lgv), .int lhc, .int lew, .int lsl, .int lsh, .ref b3, .ref b4, .ref b5, .ref b6])), (b1, .inl (kb1, 24, .inl pr)), (b2, .inl (kb2, 24, .inl lr)), (b3, .inl (kb3, 1525, .inl tb)), (b4, .inl (kb4, 25, .inl hi)), (b5, .inl (kb5, 24, .inl by_)), (b6, .inl (kb6, 24, .inl se))] H := hP
        obtain ⟨j_4, hj_4, rfl⟩ := hw
        refine lv_istore_n (lv' := [(2, .int (nI j_4)), (0, .ref x0), (1, .int (nI h)), (3, .int (nI i))]) hx hb dX3_trialBuysIn_30 rfl hl (by decide) rfl (fun ls hl => ?_)
        refine lv_iinc (v := nI (i + 1)) (lv' := [(3, .int (nI (i + 1))), (2, .int (nI j_4)), (0, .ref x0), (1, .int (nI h))]) hx hb dX3_trialBuysIn_31 hl (k := 3) rfl (inc_n i 1) (by decide) rfl (fun ls hl => ?_)
        refine lv_goto (tgt := 16) hx hb dX3_trialBuysIn_34 (by decide) ?_
        exact ih (i + 1) j_4 _ _ _ (by first | assumption | omega) (by first | assumption | omega) (by omega) hP hS (lv_sub hl [2, 3, 1, 0] rfl)
  exact L16 (24 - ov + 1) ov st _ _ _ (by first | assumption | omega) (by first | assumption | omega) (Nat.lt_succ_self _) hP hS (lv_sub hl [2, 3, 1, 0] rfl)
set_option maxHeartbeats 4000000 in
set_option maxRecDepth 100000 in
theorem c_X3_told (l : Launch) (dC : Nat → ClassId) (dI : Nat → Nat → Nat) (x0 s0 s1 s2 b0 b1 b2 b3 b4 b5 b6 pl0 rt rd ri rs rk : Nat) (ks1 ks2 kb1 kb2 kb3 kb4 kb5 kb6 kp0 : ClassId) (ld : Int32) (ud : Int32) (sd : Int32) (ov : Nat) (st : Nat) (tk : Nat) (gv : Nat) (hc : Int32) (ew : Int32) (sl : Int32) (ca : Int32) (lc : Nat) (rm : Nat → Int32) (lw : Nat → Int32) (ltk : Nat) (lgv : Nat) (lhc : Int32) (lew : Int32) (lsl : Int32) (lsh : Int32) (pr : Nat → Int32) (lr : Nat → Int32) (tb : Nat → Int32) (hi : Nat → Int32) (by_ : Nat → Int32) (se : Nat → Int32) (pn : Nat → Int32) (w : Int32) (i0 : ov ≤ 24) (i1 : st ≤ 60) (i2 : tk ≤ 9) (i3 : gv ≤ 9) (i4 : lc ≤ 12) (i5 : bdA 60 24 rm) (i6 : ltk ≤ 9) (i7 : lgv ≤ 9) (i8 : bdA 60 24 lr) (i9 : bdA 60 25 hi) (i10 : bdA 60 24 by_) (i11 : bdA 60 24 se) (i12 : bdA 60 24 pn) : Met l yX3_told wsX3_told ({ frames := 3, cells := 0, slots := 0, locals := 64 }) (va_Pc [.ref x0, .int w] (fun U => va_P (dC, dI) vwCl [(x0, .inr (3, [.ref s0, .ref b0, .ref rt, .ref pl0, .ref rd, .ref ri, .ref rs, .ref rk, .int ld, .int ud, .int sd])), (s0, .inr (2, [.int (nI ov), .int (nI st), .int (nI tk), .int (nI gv), .int hc, .int ew, .int sl, .int ca, .int (nI lc), .ref s1, .ref s2])), (s1, .inl (ks1, 24, .inl rm)), (s2, .inl (ks2, 60, .inl lw)), (b0, .inr (1, [.ref b1, .ref b2, .int (nI ltk), .int (nI lgv), .int lhc, .int lew, .int lsl, .int lsh, .ref b3, .ref b4, .ref b5, .ref b6])), (b1, .inl (kb1, 24, .inl pr)), (b2, .inl (kb2, 24, .inl lr)), (b3, .inl (kb3, 1525, .inl tb)), (b4, .inl (kb4, 25, .inl hi)), (b5, .inl (kb5, 24, .inl by_)), (b6, .inl (kb6, 24, .inl se)), (pl0, .inl (kp0, 24, .inl pn))] U.heap ∧ va_K (dC, dI) vwCl [(ks1, .int), (ks2, .int), (kb1, .int), (kb2, .int), (kb3, .int), (kb4, .int), (kb5, .int), (kb6, .int), (kp0, .int)] U)) (va_Qi (fun r (_ : Unit) => True) (fun _ _ => True) (fun _ => False)) 0 0 (fun _ => False) := by
  refine Met.ofW (cc := cX3_told) (maxL := 2) (ret := (some .int)) (by decide) rfl ?_
  intro p e s m args below meth c s₁ B hml hv
  obtain ⟨rfl, hP, hK⟩ := hv
  have hx := B.exec
  have hb := B.bytes
  have hr := B.returns
  have hts := atoms_spec (ws := wsX3_told) B.pre
  have hown : s.vm.findClass RX3 = some m.cls := findClass_of_methodNamed B.named
  have hlocks := B.notSynchronized
  have inX3 : ∀ w ∈ wsX30, w ∈ wsX3_told := fun _ h => List.mem_cons_of_mem _ (List.mem_append_left _ (List.mem_append_left _ (List.mem_append_right _ h)))
  have inX2 : ∀ w ∈ wsX20, w ∈ wsX3_told := fun _ h => List.mem_cons_of_mem _ (List.mem_append_left _ (List.mem_append_right _ h))
  have inX1 : ∀ w ∈ wsX10, w ∈ wsX3_told := fun _ h => List.mem_cons_of_mem _ (List.mem_append_right _ h)
  have hS : va_S (fun _ => False) s.heap s.heap [] := va_S.rf
  have hl := lv_entry ([.ref x0, .int w]) (n := 2) (Nat.le_of_ble_eq_true rfl)
  rw [lg_entry_eq]
  generalize (lg_sl ([.ref x0, .int w]) ++ List.replicate (2 - (lg_sl ([.ref x0, .int w])).length) Slot.unset).toArray = ls at hl ⊢
  generalize hQe : MQ below _ _ s 0 0 _ = Q
  generalize ([.ref x0, .int w] : List Value).toArray = args at hts hQe ⊢
  have hl : lv_has ls 2 [(0, .ref x0), (1, .int w)] := hl
  refine lv_iload_n hx hb dX3_told_0 rfl (lv_at hl 1 rfl) ?_
  rcases tb_cases w (n := 13) (by decide) with ⟨k_1, hk_1, ek_1⟩ | c_1
  · subst ek_1
    rcases (show k_1 = 0 ∨ k_1 = 1 ∨ k_1 = 2 ∨ k_1 = 3 ∨ k_1 = 4 ∨ k_1 = 5 ∨ k_1 = 6 ∨ k_1 = 7 ∨ k_1 = 8 ∨ k_1 = 9 ∨ k_1 = 10 ∨ k_1 = 11 ∨ k_1 = 12 ∨ k_1 = 13 by omega) with rfl | rfl | rfl | rfl | rfl | rfl | rfl | rfl | rfl | rfl | rfl | rfl | rfl | rfl
    · refine lv_tableIn (off := (71)) (tgt := 72) hx hb dX3_told_1 (by decide) (by decide) (by decide) (by decide) ?_
      refine lv_aload_n hx hb dX3_told_72 rfl (lv_at hl 0 rfl) ?_
      refine va_get (D := (dC, dI)) (ci := 3) (v := .ref s0) (C := RX3) (T := TX3) (N := 11) hx hb hts inX3 hown hK hP 0 rfl rfl 0 (by decide) (hts (.fieldLink RX3 12 "StoreSlopes" "now" "LStoreSlopes$State;") (List.mem_of_getElem? (i := 1) rfl)) (fun _ h9 => h9) rfl dX3_told_73 ?_
      refine va_get (D := (dC, dI)) (ci := 2) (v := .int (nI ov)) (C := RX2) (T := TX2) (N := 11) hx hb hts inX2 hown hK hP 1 rfl rfl 0 (by decide) (hts (.fieldLink RX3 53 "StoreSlopes$State" "over" "I") (List.mem_of_getElem? (i := 2) rfl)) (fun _ h9 => h9) rfl dX3_told_76 ?_
      subst hQe
      exact W.iret (v := (nI ov)) hx hb hr (fun t ht hW => ⟨⟨_, (), rfl, trivial, trivial⟩, hS.F ht⟩) hS.2.2 dX3_told_79
    · refine lv_tableIn (off := (79)) (tgt := 80) hx hb dX3_told_1 (by decide) (by decide) (by decide) (by decide) ?_
      refine lv_aload_n hx hb dX3_told_80 rfl (lv_at hl 0 rfl) ?_
      refine va_get (D := (dC, dI)) (ci := 3) (v := .ref s0) (C := RX3) (T := TX3) (N := 11) hx hb hts inX3 hown hK hP 0 rfl rfl 0 (by decide) (hts (.fieldLink RX3 12 "StoreSlopes" "now" "LStoreSlopes$State;") (List.mem_of_getElem? (i := 1) rfl)) (fun _ h9 => h9) rfl dX3_told_81 ?_
      refine va_get (D := (dC, dI)) (ci := 2) (v := .int (nI st)) (C := RX2) (T := TX2) (N := 11) hx hb hts inX2 hown hK hP 1 rfl rfl 1 (by decide) (hts (.fieldLink RX3 57 "StoreSlopes$State" "start" "I") (List.mem_of_getElem? (i := 3) rfl)) (fun _ h9 => h9) rfl dX3_told_84 ?_
      subst hQe
      exact W.iret (v := (nI st)) hx hb hr (fun t ht hW => ⟨⟨_, (), rfl, trivial, trivial⟩, hS.F ht⟩) hS.2.2 dX3_told_87
    · refine lv_tableIn (off := (87)) (tgt := 88) hx hb dX3_told_1 (by decide) (by decide) (by decide) (by decide) ?_
      refine lv_aload_n hx hb dX3_told_88 rfl (lv_at hl 0 rfl) ?_
      refine va_get (D := (dC, dI)) (ci := 3) (v := .ref s0) (C := RX3) (T := TX3) (N := 11) hx hb hts inX3 hown hK hP 0 rfl rfl 0 (by decide) (hts (.fieldLink RX3 12 "StoreSlopes" "now" "LStoreSlopes$State;") (List.mem_of_getElem? (i := 1) rfl)) (fun _ h9 => h9) rfl dX3_told_89 ?_
      refine va_get (D := (dC, dI)) (ci := 2) (v := .int (nI tk)) (C := RX2) (T := TX2) (N := 11) hx hb hts inX2 hown hK hP 1 rfl rfl 2 (by decide) (hts (.fieldLink RX3 60 "StoreSlopes$State" "takes" "I") (List.mem_of_getElem? (i := 4) rfl)) (fun _ h9 => h9) rfl dX3_told_92 ?_
      subst hQe
      exact W.iret (v := (nI tk)) hx hb hr (fun t ht hW => ⟨⟨_, (), rfl, trivial, trivial⟩, hS.F ht⟩) hS.2.2 dX3_told_95
    · refine lv_tableIn (off := (95)) (tgt := 96) hx hb dX3_told_1 (by decide) (by decide) (by decide) (by decide) ?_
      refine lv_aload_n hx hb dX3_told_96 rfl (lv_at hl 0 rfl) ?_
      refine va_get (D := (dC, dI)) (ci := 3) (v := .ref s0) (C := RX3) (T := TX3) (N := 11) hx hb hts inX3 hown hK hP 0 rfl rfl 0 (by decide) (hts (.fieldLink RX3 12 "StoreSlopes" "now" "LStoreSlopes$State;") (List.mem_of_getElem? (i := 1) rfl)) (fun _ h9 => h9) rfl dX3_told_97 ?_
      refine va_get (D := (dC, dI)) (ci := 2) (v := .int (nI gv)) (C := RX2) (T := TX2) (N := 11) hx hb hts inX2 hown hK hP 1 rfl rfl 3 (by decide) (hts (.fieldLink RX3 63 "StoreSlopes$State" "gives" "I") (List.mem_of_getElem? (i := 5) rfl)) (fun _ h9 => h9) rfl dX3_told_100 ?_
      subst hQe
      exact W.iret (v := (nI gv)) hx hb hr (fun t ht hW => ⟨⟨_, (), rfl, trivial, trivial⟩, hS.F ht⟩) hS.2.2 dX3_told_103
    · refine lv_tableIn (off := (103)) (tgt := 104) hx hb dX3_told_1 (by decide) (by decide) (by decide) (by decide) ?_
      refine lv_aload_n hx hb dX3_told_104 rfl (lv_at hl 0 rfl) ?_
      refine va_get (D := (dC, dI)) (ci := 3) (v := .ref s0) (C := RX3) (T := TX3) (N := 11) hx hb hts inX3 hown hK hP 0 rfl rfl 0 (by decide) (hts (.fieldLink RX3 12 "StoreSlopes" "now" "LStoreSlopes$State;") (List.mem_of_getElem? (i := 1) rfl)) (fun _ h9 => h9) rfl dX3_told_105 ?_
      refine va_get (D := (dC, dI)) (ci := 2) (v := .int hc) (C := RX2) (T := TX2) (N := 11) hx hb hts inX2 hown hK hP 1 rfl rfl 4 (by decide) (hts (.fieldLink RX3 66 "StoreSlopes$State" "holdCost" "I") (List.mem_of_getElem? (i := 6) rfl)) (fun _ h9 => h9) rfl dX3_told_108 ?_
      subst hQe
      exact W.iret (v := hc) hx hb hr (fun t ht hW => ⟨⟨_, (), rfl, trivial, trivial⟩, hS.F ht⟩) hS.2.2 dX3_told_111
    · refine lv_tableIn (off := (111)) (tgt := 112) hx hb dX3_told_1 (by decide) (by decide) (by decide) (by decide) ?_
      refine lv_aload_n hx hb dX3_told_112 rfl (lv_at hl 0 rfl) ?_
      refine va_get (D := (dC, dI)) (ci := 3) (v := .ref s0) (C := RX3) (T := TX3) (N := 11) hx hb hts inX3 hown hK hP 0 rfl rfl 0 (by decide) (hts (.fieldLink RX3 12 "StoreSlopes" "now" "LStoreSlopes$State;") (List.mem_of_getElem? (i := 1) rfl)) (fun _ h9 => h9) rfl dX3_told_113 ?_
      refine va_get (D := (dC, dI)) (ci := 2) (v := .int ew) (C := RX2) (T := TX2) (N := 11) hx hb hts inX2 hown hK hP 1 rfl rfl 5 (by decide) (hts (.fieldLink RX3 69 "StoreSlopes$State" "endWorth" "I") (List.mem_of_getElem? (i := 7) rfl)) (fun _ h9 => h9) rfl dX3_told_116 ?_
      refine lv_bipush (v := nI 100) hx hb dX3_told_119 (by decide) ?_
      refine lv_iadd hx hb dX3_told_121 ?_
      refine tp_any (fun y_1 => ?_)
      subst hQe
      exact W.iret (v := y_1) hx hb hr (fun t ht hW => ⟨⟨_, (), rfl, trivial, trivial⟩, hS.F ht⟩) hS.2.2 dX3_told_122
    · refine lv_tableIn (off := (122)) (tgt := 123) hx hb dX3_told_1 (by decide) (by decide) (by decide) (by decide) ?_
      refine lv_aload_n hx hb dX3_told_123 rfl (lv_at hl 0 rfl) ?_
      refine va_get (D := (dC, dI)) (ci := 3) (v := .ref s0) (C := RX3) (T := TX3) (N := 11) hx hb hts inX3 hown hK hP 0 rfl rfl 0 (by decide) (hts (.fieldLink RX3 12 "StoreSlopes" "now" "LStoreSlopes$State;") (List.mem_of_getElem? (i := 1) rfl)) (fun _ h9 => h9) rfl dX3_told_124 ?_
      refine va_get (D := (dC, dI)) (ci := 2) (v := .int sl) (C := RX2) (T := TX2) (N := 11) hx hb hts inX2 hown hK hP 1 rfl rfl 6 (by decide) (hts (.fieldLink RX3 72 "StoreSlopes$State" "sellLoss" "I") (List.mem_of_getElem? (i := 8) rfl)) (fun _ h9 => h9) rfl dX3_told_127 ?_
      subst hQe
      exact W.iret (v := sl) hx hb hr (fun t ht hW => ⟨⟨_, (), rfl, trivial, trivial⟩, hS.F ht⟩) hS.2.2 dX3_told_130
    · refine lv_tableIn (off := (130)) (tgt := 131) hx hb dX3_told_1 (by decide) (by decide) (by decide) (by decide) ?_
      refine lv_aload_n hx hb dX3_told_131 rfl (lv_at hl 0 rfl) ?_
      refine va_get (D := (dC, dI)) (ci := 3) (v := .ref s0) (C := RX3) (T := TX3) (N := 11) hx hb hts inX3 hown hK hP 0 rfl rfl 0 (by decide) (hts (.fieldLink RX3 12 "StoreSlopes" "now" "LStoreSlopes$State;") (List.mem_of_getElem? (i := 1) rfl)) (fun _ h9 => h9) rfl dX3_told_132 ?_
      refine va_get (D := (dC, dI)) (ci := 2) (v := .int (nI lc)) (C := RX2) (T := TX2) (N := 11) hx hb hts inX2 hown hK hP 1 rfl rfl 8 (by decide) (hts (.fieldLink RX3 75 "StoreSlopes$State" "lawCount" "I") (List.mem_of_getElem? (i := 9) rfl)) (fun _ h9 => h9) rfl dX3_told_135 ?_
      subst hQe
      exact W.iret (v := (nI lc)) hx hb hr (fun t ht hW => ⟨⟨_, (), rfl, trivial, trivial⟩, hS.F ht⟩) hS.2.2 dX3_told_138
    · refine lv_tableIn (off := (138)) (tgt := 139) hx hb dX3_told_1 (by decide) (by decide) (by decide) (by decide) ?_
      refine lv_aload_n hx hb dX3_told_139 rfl (lv_at hl 0 rfl) ?_
      refine lv_aload_n hx hb dX3_told_140 rfl (lv_at hl 0 rfl) ?_
      refine va_get (D := (dC, dI)) (ci := 3) (v := .ref b0) (C := RX3) (T := TX3) (N := 11) hx hb hts inX3 hown hK hP 0 rfl rfl 1 (by decide) (hts (.fieldLink RX3 19 "StoreSlopes" "asIs" "LStoreSlopes$Slopes;") (List.mem_of_getElem? (i := 10) rfl)) (fun _ h9 => h9) rfl dX3_told_141 ?_
      have hPc := hP.sub (ws' := [(x0, .inr (3, [.ref s0, .ref b0, .ref rt, .ref pl0, .ref rd, .ref ri, .ref rs, .ref rk, .int ld, .int ud, .int sd])), (s0, .inr (2, [.int (nI ov), .int (nI st), .int (nI tk), .int (nI gv), .int hc, .int ew, .int sl, .int ca, .int (nI lc), .ref s1, .ref s2])), (s1, .inl (ks1, 24, .inl rm)), (s2, .inl (ks2, 60, .inl lw)), (b0, .inr (1, [.ref b1, .ref b2, .int (nI ltk), .int (nI lgv), .int lhc, .int lew, .int lsl, .int lsh, .ref b3, .ref b4, .ref b5, .ref b6])), (b1, .inl (kb1, 24, .inl pr)), (b2, .inl (kb2, 24, .inl lr)), (b3, .inl (kb3, 1525, .inl tb)), (b4, .inl (kb4, 25, .inl hi)), (b5, .inl (kb5, 24, .inl by_)), (b6, .inl (kb6, 24, .inl se))]) [0, 1, 2, 3, 4, 5, 6, 7, 8, 9, 10] rfl
      have hKc := hK.sub (tys' := [(ks1, .int), (ks2, .int), (kb1, .int), (kb2, .int), (kb3, .int), (kb4, .int), (kb5, .int), (kb6, .int)]) [0, 1, 2, 3, 4, 5, 6, 7] rfl
      refine va_calli (va_runV (As := [.ref b0]) (rest := []) ⟨hx, hb, hml, hown, hts⟩ (c_X3_bestBy l dC dI x0 s0 s1 s2 b0 b1 b2 b3 b4 b5 b6 b0 rt pl0 rd ri rs rk ks1 ks2 kb1 kb2 kb3 kb4 kb5 kb6 ld ud sd ov st tk gv hc ew sl ca lc rm lw ltk lgv lhc lew lsl lsh pr lr tb hi by_ se  (by first | assumption | omega) (by first | assumption | omega) (by first | assumption | omega) (by first | assumption | omega) (by first | assumption | omega) (by first | assumption | omega) (by first | assumption | omega) (by first | assumption | omega) (by first | assumption | omega) (by first | assumption | omega) (by first | assumption | omega) (by first | assumption | omega) ) (cwV 1 hts gX3_told_X3_bestBy rfl rfl rfl (by decide +kernel) ⟨Nat.le_of_ble_eq_true rfl, Nat.le_of_ble_eq_true rfl⟩) ⟨fun a U g mk q => by obtain ⟨q0, qP, qK⟩ := q; exact ⟨q0, qP, va_K.moved (u := U) (U := U.calling g mk a) (Vm.Alike.refl U.vm) qK⟩, va_recv hKc hPc (ci := 3) (q0 := 0) rfl rfl, fun U hU hW => ⟨rfl, by rw [hU]; exact hPc, va_K.moved hW.alike hKc⟩⟩ rfl rfl hl.1 rfl (lv_room (Nat.le_of_ble_eq_true rfl)) dX3_told_144 ⟨Nat.le_of_ble_eq_true rfl, Nat.le_of_ble_eq_true rfl⟩) hS (fun q _ h => h.elim) (fun q h => h.elim) (fun r_2 u t H1 locs ht hvm hw hB hz1 hk1 hS => ?_)
      refine W.widen (k := 0) (n := 0) (Nat.le_of_ble_eq_true rfl) (Nat.le_of_ble_eq_true rfl) ?_
      have hP := hP.kept (H1 := H1) (fun k q hk => hk1 q.1 (hP k q hk).lt (fun h => h))
      clear hz1 hk1 hB ht hvm t
      generalize H1 = H at hP hS ⊢
      have hP : va_P (dC, dI) vwCl [(x0, .inr (3, [.ref s0, .ref b0, .ref rt, .ref pl0, .ref rd, .ref ri, .ref rs, .ref rk, .int ld, .int ud, .int sd])), (s0, .inr (2, [.int (nI ov), .int (nI st), .int (nI tk), .int (nI gv), .int hc, .int ew, .int sl, .int ca, .int (nI lc), .ref s1, .ref s2])), (s1, .inl (ks1, 24, .inl rm)), (s2, .inl (ks2, 60, .inl lw)), (b0, .inr (1, [.ref b1, .ref b2, .int (nI ltk), .int (nI lgv), .int lhc, .int lew, .int lsl, .int lsh, .ref b3, .ref b4, .ref b5, .ref b6])), (b1, .inl (kb1, 24, .inl pr)), (b2, .inl (kb2, 24, .inl lr)), (b3, .inl (kb3, 1525, .inl tb)), (b4, .inl (kb4, 25, .inl hi)), (b5, .inl (kb5, 24, .inl by_)), (b6, .inl (kb6, 24, .inl se)), (pl0, .inl (kp0, 24, .inl pn))] H := hP
      clear hw
      subst hQe
      exact W.iret (v := r_2) hx hb hr (fun t ht hW => ⟨⟨_, (), rfl, trivial, trivial⟩, hS.F ht⟩) hS.2.2 dX3_told_147
    · refine lv_tableIn (off := (147)) (tgt := 148) hx hb dX3_told_1 (by decide) (by decide) (by decide) (by decide) ?_
      refine lv_aload_n hx hb dX3_told_148 rfl (lv_at hl 0 rfl) ?_
      refine va_get (D := (dC, dI)) (ci := 3) (v := .ref s0) (C := RX3) (T := TX3) (N := 11) hx hb hts inX3 hown hK hP 0 rfl rfl 0 (by decide) (hts (.fieldLink RX3 12 "StoreSlopes" "now" "LStoreSlopes$State;") (List.mem_of_getElem? (i := 1) rfl)) (fun _ h9 => h9) rfl dX3_told_149 ?_
      refine va_get (D := (dC, dI)) (ci := 2) (v := .int ca) (C := RX2) (T := TX2) (N := 11) hx hb hts inX2 hown hK hP 1 rfl rfl 7 (by decide) (hts (.fieldLink RX3 82 "StoreSlopes$State" "cash" "I") (List.mem_of_getElem? (i := 11) rfl)) (fun _ h9 => h9) rfl dX3_told_152 ?_
      refine lv_ldc (own := RX3) (v := (1000000)) hx hb hown (hts (.constant RX3 85 (1000000)) (List.mem_of_getElem? (i := 12) rfl)) dX3_told_155 ?_
      refine lv_iadd hx hb dX3_told_157 ?_
      refine tp_any (fun y_3 => ?_)
      subst hQe
      exact W.iret (v := y_3) hx hb hr (fun t ht hW => ⟨⟨_, (), rfl, trivial, trivial⟩, hS.F ht⟩) hS.2.2 dX3_told_158
    · refine lv_tableIn (off := (158)) (tgt := 159) hx hb dX3_told_1 (by decide) (by decide) (by decide) (by decide) ?_
      refine lv_aload_n hx hb dX3_told_159 rfl (lv_at hl 0 rfl) ?_
      refine lv_aload_n hx hb dX3_told_160 rfl (lv_at hl 0 rfl) ?_
      refine va_get (D := (dC, dI)) (ci := 3) (v := .ref b0) (C := RX3) (T := TX3) (N := 11) hx hb hts inX3 hown hK hP 0 rfl rfl 1 (by decide) (hts (.fieldLink RX3 19 "StoreSlopes" "asIs" "LStoreSlopes$Slopes;") (List.mem_of_getElem? (i := 10) rfl)) (fun _ h9 => h9) rfl dX3_told_161 ?_
      have hPc := hP.sub (ws' := [(x0, .inr (3, [.ref s0, .ref b0, .ref rt, .ref pl0, .ref rd, .ref ri, .ref rs, .ref rk, .int ld, .int ud, .int sd])), (s0, .inr (2, [.int (nI ov), .int (nI st), .int (nI tk), .int (nI gv), .int hc, .int ew, .int sl, .int ca, .int (nI lc), .ref s1, .ref s2])), (s1, .inl (ks1, 24, .inl rm)), (s2, .inl (ks2, 60, .inl lw)), (b0, .inr (1, [.ref b1, .ref b2, .int (nI ltk), .int (nI lgv), .int lhc, .int lew, .int lsl, .int lsh, .ref b3, .ref b4, .ref b5, .ref b6])), (b1, .inl (kb1, 24, .inl pr)), (b2, .inl (kb2, 24, .inl lr)), (b3, .inl (kb3, 1525, .inl tb)), (b4, .inl (kb4, 25, .inl hi)), (b5, .inl (kb5, 24, .inl by_)), (b6, .inl (kb6, 24, .inl se))]) [0, 1, 2, 3, 4, 5, 6, 7, 8, 9, 10] rfl
      have hKc := hK.sub (tys' := [(ks1, .int), (ks2, .int), (kb1, .int), (kb2, .int), (kb3, .int), (kb4, .int), (kb5, .int), (kb6, .int)]) [0, 1, 2, 3, 4, 5, 6, 7] rfl
      refine va_calli (va_runV (As := [.ref b0]) (rest := []) ⟨hx, hb, hml, hown, hts⟩ (c_X3_hasPlan l dC dI x0 s0 s1 s2 b0 b1 b2 b3 b4 b5 b6 b0 rt pl0 rd ri rs rk ks1 ks2 kb1 kb2 kb3 kb4 kb5 kb6 ld ud sd ov st tk gv hc ew sl ca lc rm lw ltk lgv lhc lew lsl lsh pr lr tb hi by_ se  (by first | assumption | omega) (by first | assumption | omega) (by first | assumption | omega) (by first | assumption | omega) (by first | assumption | omega) (by first | assumption | omega) (by first | assumption | omega) (by first | assumption | omega) (by first | assumption | omega) (by first | assumption | omega) (by first | assumption | omega) (by first | assumption | omega) ) (cwV 1 hts gX3_told_X3_hasPlan rfl rfl rfl (by decide +kernel) ⟨Nat.le_of_ble_eq_true rfl, Nat.le_of_ble_eq_true rfl⟩) ⟨fun a U g mk q => by obtain ⟨q0, qP, qK⟩ := q; exact ⟨q0, qP, va_K.moved (u := U) (U := U.calling g mk a) (Vm.Alike.refl U.vm) qK⟩, va_recv hKc hPc (ci := 3) (q0 := 0) rfl rfl, fun U hU hW => ⟨rfl, by rw [hU]; exact hPc, va_K.moved hW.alike hKc⟩⟩ rfl rfl hl.1 rfl (lv_room (Nat.le_of_ble_eq_true rfl)) dX3_told_164 ⟨Nat.le_of_ble_eq_true rfl, Nat.le_of_ble_eq_true rfl⟩) hS (fun q _ h => h.elim) (fun q h => h.elim) (fun r_4 u t H1 locs ht hvm hw hB hz1 hk1 hS => ?_)
      refine W.widen (k := 0) (n := 0) (Nat.le_of_ble_eq_true rfl) (Nat.le_of_ble_eq_true rfl) ?_
      have hP := hP.kept (H1 := H1) (fun k q hk => hk1 q.1 (hP k q hk).lt (fun h => h))
      clear hz1 hk1 hB ht hvm t
      generalize H1 = H at hP hS ⊢
      have hP : va_P (dC, dI) vwCl [(x0, .inr (3, [.ref s0, .ref b0, .ref rt, .ref pl0, .ref rd, .ref ri, .ref rs, .ref rk, .int ld, .int ud, .int sd])), (s0, .inr (2, [.int (nI ov), .int (nI st), .int (nI tk), .int (nI gv), .int hc, .int ew, .int sl, .int ca, .int (nI lc), .ref s1, .ref s2])), (s1, .inl (ks1, 24, .inl rm)), (s2, .inl (ks2, 60, .inl lw)), (b0, .inr (1, [.ref b1, .ref b2, .int (nI ltk), .int (nI lgv), .int lhc, .int lew, .int lsl, .int lsh, .ref b3, .ref b4, .ref b5, .ref b6])), (b1, .inl (kb1, 24, .inl pr)), (b2, .inl (kb2, 24, .inl lr)), (b3, .inl (kb3, 1525, .inl tb)), (b4, .inl (kb4, 25, .inl hi)), (b5, .inl (kb5, 24, .inl by_)), (b6, .inl (kb6, 24, .inl se)), (pl0, .inl (kp0, 24, .inl pn))] H := hP
      clear hw
      refine lv_if_eq (tgt := 178) hx hb dX3_told_167 (by decide) (fun c_167 => ?_) (fun c_167 => ?_)
      · refine lv_iconst (v := (-1)) hx hb dX3_told_178 (by decide) ?_
        subst hQe
        exact W.iret (v := ((-1))) hx hb hr (fun t ht hW => ⟨⟨_, (), rfl, trivial, trivial⟩, hS.F ht⟩) hS.2.2 dX3_told_179
      · refine lv_aload_n hx hb dX3_told_170 rfl (lv_at hl 0 rfl) ?_
        refine lv_iconst (v := nI 1) hx hb dX3_told_171 (by decide) ?_
        have hPc := hP.sub (ws' := [(x0, .inr (3, [.ref s0, .ref b0, .ref rt, .ref pl0, .ref rd, .ref ri, .ref rs, .ref rk, .int ld, .int ud, .int sd])), (s0, .inr (2, [.int (nI ov), .int (nI st), .int (nI tk), .int (nI gv), .int hc, .int ew, .int sl, .int ca, .int (nI lc), .ref s1, .ref s2])), (s1, .inl (ks1, 24, .inl rm)), (s2, .inl (ks2, 60, .inl lw)), (pl0, .inl (kp0, 24, .inl pn))]) [0, 1, 2, 3, 11] rfl
        have hKc := hK.sub (tys' := [(ks1, .int), (ks2, .int), (kp0, .int)]) [0, 1, 8] rfl
        refine va_calli (va_runV (As := [.int (nI 1)]) (rest := []) ⟨hx, hb, hml, hown, hts⟩ (c_X3_plannedTrade l dC dI x0 s0 s1 s2 pl0 b0 rt rd ri rs rk ks1 ks2 kp0 ld ud sd ov st tk gv hc ew sl ca lc rm lw pn (nI 1) (by first | assumption | omega) (by first | assumption | omega) (by first | assumption | omega) (by first | assumption | omega) (by first | assumption | omega) (by first | assumption | omega) (by first | assumption | omega) ) (cwV 1 hts gX3_told_X3_plannedTrade rfl rfl rfl (by decide +kernel) ⟨Nat.le_of_ble_eq_true rfl, Nat.le_of_ble_eq_true rfl⟩) ⟨fun a U g mk q => by obtain ⟨q0, qP, qK⟩ := q; exact ⟨q0, qP, va_K.moved (u := U) (U := U.calling g mk a) (Vm.Alike.refl U.vm) qK⟩, va_recv hKc hPc (ci := 3) (q0 := 0) rfl rfl, fun U hU hW => ⟨rfl, by rw [hU]; exact hPc, va_K.moved hW.alike hKc⟩⟩ rfl rfl hl.1 rfl (lv_room (Nat.le_of_ble_eq_true rfl)) dX3_told_172 ⟨Nat.le_of_ble_eq_true rfl, Nat.le_of_ble_eq_true rfl⟩) hS (fun q _ h => h.elim) (fun q h => h.elim) (fun r_5 u t H1 locs ht hvm hw hB hz1 hk1 hS => ?_)
        refine W.widen (k := 0) (n := 0) (Nat.le_of_ble_eq_true rfl) (Nat.le_of_ble_eq_true rfl) ?_
        have hP := hP.kept (H1 := H1) (fun k q hk => hk1 q.1 (hP k q hk).lt (fun h => h))
        clear hz1 hk1 hB ht hvm t
        generalize H1 = H at hP hS ⊢
        have hP : va_P (dC, dI) vwCl [(x0, .inr (3, [.ref s0, .ref b0, .ref rt, .ref pl0, .ref rd, .ref ri, .ref rs, .ref rk, .int ld, .int ud, .int sd])), (s0, .inr (2, [.int (nI ov), .int (nI st), .int (nI tk), .int (nI gv), .int hc, .int ew, .int sl, .int ca, .int (nI lc), .ref s1, .ref s2])), (s1, .inl (ks1, 24, .inl rm)), (s2, .inl (ks2, 60, .inl lw)), (b0, .inr (1, [.ref b1, .ref b2, .int (nI ltk), .int (nI lgv), .int lhc, .int lew, .int lsl, .int lsh, .ref b3, .ref b4, .ref b5, .ref b6])), (b1, .inl (kb1, 24, .inl pr)), (b2, .inl (kb2, 24, .inl lr)), (b3, .inl (kb3, 1525, .inl tb)), (b4, .inl (kb4, 25, .inl hi)), (b5, .inl (kb5, 24, .inl by_)), (b6, .inl (kb6, 24, .inl se)), (pl0, .inl (kp0, 24, .inl pn))] H := hP
        clear hw
        refine lv_goto (tgt := 179) hx hb dX3_told_175 (by decide) ?_
        subst hQe
        exact W.iret (v := r_5) hx hb hr (fun t ht hW => ⟨⟨_, (), rfl, trivial, trivial⟩, hS.F ht⟩) hS.2.2 dX3_told_179
    · refine lv_tableIn (off := (179)) (tgt := 180) hx hb dX3_told_1 (by decide) (by decide) (by decide) (by decide) ?_
      refine lv_aload_n hx hb dX3_told_180 rfl (lv_at hl 0 rfl) ?_
      refine lv_aload_n hx hb dX3_told_181 rfl (lv_at hl 0 rfl) ?_
      refine va_get (D := (dC, dI)) (ci := 3) (v := .ref b0) (C := RX3) (T := TX3) (N := 11) hx hb hts inX3 hown hK hP 0 rfl rfl 1 (by decide) (hts (.fieldLink RX3 19 "StoreSlopes" "asIs" "LStoreSlopes$Slopes;") (List.mem_of_getElem? (i := 10) rfl)) (fun _ h9 => h9) rfl dX3_told_182 ?_
      have hPc := hP.sub (ws' := [(x0, .inr (3, [.ref s0, .ref b0, .ref rt, .ref pl0, .ref rd, .ref ri, .ref rs, .ref rk, .int ld, .int ud, .int sd])), (s0, .inr (2, [.int (nI ov), .int (nI st), .int (nI tk), .int (nI gv), .int hc, .int ew, .int sl, .int ca, .int (nI lc), .ref s1, .ref s2])), (s1, .inl (ks1, 24, .inl rm)), (s2, .inl (ks2, 60, .inl lw)), (b0, .inr (1, [.ref b1, .ref b2, .int (nI ltk), .int (nI lgv), .int lhc, .int lew, .int lsl, .int lsh, .ref b3, .ref b4, .ref b5, .ref b6])), (b1, .inl (kb1, 24, .inl pr)), (b2, .inl (kb2, 24, .inl lr)), (b3, .inl (kb3, 1525, .inl tb)), (b4, .inl (kb4, 25, .inl hi)), (b5, .inl (kb5, 24, .inl by_)), (b6, .inl (kb6, 24, .inl se))]) [0, 1, 2, 3, 4, 5, 6, 7, 8, 9, 10] rfl
      have hKc := hK.sub (tys' := [(ks1, .int), (ks2, .int), (kb1, .int), (kb2, .int), (kb3, .int), (kb4, .int), (kb5, .int), (kb6, .int)]) [0, 1, 2, 3, 4, 5, 6, 7] rfl
      refine va_calli (va_runV (As := [.ref b0]) (rest := []) ⟨hx, hb, hml, hown, hts⟩ (c_X3_hasPlan l dC dI x0 s0 s1 s2 b0 b1 b2 b3 b4 b5 b6 b0 rt pl0 rd ri rs rk ks1 ks2 kb1 kb2 kb3 kb4 kb5 kb6 ld ud sd ov st tk gv hc ew sl ca lc rm lw ltk lgv lhc lew lsl lsh pr lr tb hi by_ se  (by first | assumption | omega) (by first | assumption | omega) (by first | assumption | omega) (by first | assumption | omega) (by first | assumption | omega) (by first | assumption | omega) (by first | assumption | omega) (by first | assumption | omega) (by first | assumption | omega) (by first | assumption | omega) (by first | assumption | omega) (by first | assumption | omega) ) (cwV 1 hts gX3_told_X3_hasPlan rfl rfl rfl (by decide +kernel) ⟨Nat.le_of_ble_eq_true rfl, Nat.le_of_ble_eq_true rfl⟩) ⟨fun a U g mk q => by obtain ⟨q0, qP, qK⟩ := q; exact ⟨q0, qP, va_K.moved (u := U) (U := U.calling g mk a) (Vm.Alike.refl U.vm) qK⟩, va_recv hKc hPc (ci := 3) (q0 := 0) rfl rfl, fun U hU hW => ⟨rfl, by rw [hU]; exact hPc, va_K.moved hW.alike hKc⟩⟩ rfl rfl hl.1 rfl (lv_room (Nat.le_of_ble_eq_true rfl)) dX3_told_185 ⟨Nat.le_of_ble_eq_true rfl, Nat.le_of_ble_eq_true rfl⟩) hS (fun q _ h => h.elim) (fun q h => h.elim) (fun r_6 u t H1 locs ht hvm hw hB hz1 hk1 hS => ?_)
      refine W.widen (k := 0) (n := 0) (Nat.le_of_ble_eq_true rfl) (Nat.le_of_ble_eq_true rfl) ?_
      have hP := hP.kept (H1 := H1) (fun k q hk => hk1 q.1 (hP k q hk).lt (fun h => h))
      clear hz1 hk1 hB ht hvm t
      generalize H1 = H at hP hS ⊢
      have hP : va_P (dC, dI) vwCl [(x0, .inr (3, [.ref s0, .ref b0, .ref rt, .ref pl0, .ref rd, .ref ri, .ref rs, .ref rk, .int ld, .int ud, .int sd])), (s0, .inr (2, [.int (nI ov), .int (nI st), .int (nI tk), .int (nI gv), .int hc, .int ew, .int sl, .int ca, .int (nI lc), .ref s1, .ref s2])), (s1, .inl (ks1, 24, .inl rm)), (s2, .inl (ks2, 60, .inl lw)), (b0, .inr (1, [.ref b1, .ref b2, .int (nI ltk), .int (nI lgv), .int lhc, .int lew, .int lsl, .int lsh, .ref b3, .ref b4, .ref b5, .ref b6])), (b1, .inl (kb1, 24, .inl pr)), (b2, .inl (kb2, 24, .inl lr)), (b3, .inl (kb3, 1525, .inl tb)), (b4, .inl (kb4, 25, .inl hi)), (b5, .inl (kb5, 24, .inl by_)), (b6, .inl (kb6, 24, .inl se)), (pl0, .inl (kp0, 24, .inl pn))] H := hP
      clear hw
      refine lv_if_eq (tgt := 199) hx hb dX3_told_188 (by decide) (fun c_188 => ?_) (fun c_188 => ?_)
      · refine lv_iconst (v := (-1)) hx hb dX3_told_199 (by decide) ?_
        subst hQe
        exact W.iret (v := ((-1))) hx hb hr (fun t ht hW => ⟨⟨_, (), rfl, trivial, trivial⟩, hS.F ht⟩) hS.2.2 dX3_told_200
      · refine lv_aload_n hx hb dX3_told_191 rfl (lv_at hl 0 rfl) ?_
        refine lv_iconst (v := (-1)) hx hb dX3_told_192 (by decide) ?_
        have hPc := hP.sub (ws' := [(x0, .inr (3, [.ref s0, .ref b0, .ref rt, .ref pl0, .ref rd, .ref ri, .ref rs, .ref rk, .int ld, .int ud, .int sd])), (s0, .inr (2, [.int (nI ov), .int (nI st), .int (nI tk), .int (nI gv), .int hc, .int ew, .int sl, .int ca, .int (nI lc), .ref s1, .ref s2])), (s1, .inl (ks1, 24, .inl rm)), (s2, .inl (ks2, 60, .inl lw)), (pl0, .inl (kp0, 24, .inl pn))]) [0, 1, 2, 3, 11] rfl
        have hKc := hK.sub (tys' := [(ks1, .int), (ks2, .int), (kp0, .int)]) [0, 1, 8] rfl
        refine va_calli (va_runV (As := [.int ((-1))]) (rest := []) ⟨hx, hb, hml, hown, hts⟩ (c_X3_plannedTrade l dC dI x0 s0 s1 s2 pl0 b0 rt rd ri rs rk ks1 ks2 kp0 ld ud sd ov st tk gv hc ew sl ca lc rm lw pn ((-1)) (by first | assumption | omega) (by first | assumption | omega) (by first | assumption | omega) (by first | assumption | omega) (by first | assumption | omega) (by first | assumption | omega) (by first | assumption | omega) ) (cwV 1 hts gX3_told_X3_plannedTrade rfl rfl rfl (by decide +kernel) ⟨Nat.le_of_ble_eq_true rfl, Nat.le_of_ble_eq_true rfl⟩) ⟨fun a U g mk q => by obtain ⟨q0, qP, qK⟩ := q; exact ⟨q0, qP, va_K.moved (u := U) (U := U.calling g mk a) (Vm.Alike.refl U.vm) qK⟩, va_recv hKc hPc (ci := 3) (q0 := 0) rfl rfl, fun U hU hW => ⟨rfl, by rw [hU]; exact hPc, va_K.moved hW.alike hKc⟩⟩ rfl rfl hl.1 rfl (lv_room (Nat.le_of_ble_eq_true rfl)) dX3_told_193 ⟨Nat.le_of_ble_eq_true rfl, Nat.le_of_ble_eq_true rfl⟩) hS (fun q _ h => h.elim) (fun q h => h.elim) (fun r_7 u t H1 locs ht hvm hw hB hz1 hk1 hS => ?_)
        refine W.widen (k := 0) (n := 0) (Nat.le_of_ble_eq_true rfl) (Nat.le_of_ble_eq_true rfl) ?_
        have hP := hP.kept (H1 := H1) (fun k q hk => hk1 q.1 (hP k q hk).lt (fun h => h))
        clear hz1 hk1 hB ht hvm t
        generalize H1 = H at hP hS ⊢
        have hP : va_P (dC, dI) vwCl [(x0, .inr (3, [.ref s0, .ref b0, .ref rt, .ref pl0, .ref rd, .ref ri, .ref rs, .ref rk, .int ld, .int ud, .int sd])), (s0, .inr (2, [.int (nI ov), .int (nI st), .int (nI tk), .int (nI gv), .int hc, .int ew, .int sl, .int ca, .int (nI lc), .ref s1, .ref s2])), (s1, .inl (ks1, 24, .inl rm)), (s2, .inl (ks2, 60, .inl lw)), (b0, .inr (1, [.ref b1, .ref b2, .int (nI ltk), .int (nI lgv), .int lhc, .int lew, .int lsl, .int lsh, .ref b3, .ref b4, .ref b5, .ref b6])), (b1, .inl (kb1, 24, .inl pr)), (b2, .inl (kb2, 24, .inl lr)), (b3, .inl (kb3, 1525, .inl tb)), (b4, .inl (kb4, 25, .inl hi)), (b5, .inl (kb5, 24, .inl by_)), (b6, .inl (kb6, 24, .inl se)), (pl0, .inl (kp0, 24, .inl pn))] H := hP
        clear hw
        refine lv_goto (tgt := 200) hx hb dX3_told_196 (by decide) ?_
        subst hQe
        exact W.iret (v := r_7) hx hb hr (fun t ht hW => ⟨⟨_, (), rfl, trivial, trivial⟩, hS.F ht⟩) hS.2.2 dX3_told_200
    · refine lv_tableIn (off := (200)) (tgt := 201) hx hb dX3_told_1 (by decide) (by decide) (by decide) (by decide) ?_
      refine lv_aload_n hx hb dX3_told_201 rfl (lv_at hl 0 rfl) ?_
      refine lv_aload_n hx hb dX3_told_202 rfl (lv_at hl 0 rfl) ?_
      refine va_get (D := (dC, dI)) (ci := 3) (v := .ref b0) (C := RX3) (T := TX3) (N := 11) hx hb hts inX3 hown hK hP 0 rfl rfl 1 (by decide) (hts (.fieldLink RX3 19 "StoreSlopes" "asIs" "LStoreSlopes$Slopes;") (List.mem_of_getElem? (i := 10) rfl)) (fun _ h9 => h9) rfl dX3_told_203 ?_
      have hPc := hP.sub (ws' := [(x0, .inr (3, [.ref s0, .ref b0, .ref rt, .ref pl0, .ref rd, .ref ri, .ref rs, .ref rk, .int ld, .int ud, .int sd])), (s0, .inr (2, [.int (nI ov), .int (nI st), .int (nI tk), .int (nI gv), .int hc, .int ew, .int sl, .int ca, .int (nI lc), .ref s1, .ref s2])), (s1, .inl (ks1, 24, .inl rm)), (s2, .inl (ks2, 60, .inl lw)), (b0, .inr (1, [.ref b1, .ref b2, .int (nI ltk), .int (nI lgv), .int lhc, .int lew, .int lsl, .int lsh, .ref b3, .ref b4, .ref b5, .ref b6])), (b1, .inl (kb1, 24, .inl pr)), (b2, .inl (kb2, 24, .inl lr)), (b3, .inl (kb3, 1525, .inl tb)), (b4, .inl (kb4, 25, .inl hi)), (b5, .inl (kb5, 24, .inl by_)), (b6, .inl (kb6, 24, .inl se))]) [0, 1, 2, 3, 4, 5, 6, 7, 8, 9, 10] rfl
      have hKc := hK.sub (tys' := [(ks1, .int), (ks2, .int), (kb1, .int), (kb2, .int), (kb3, .int), (kb4, .int), (kb5, .int), (kb6, .int)]) [0, 1, 2, 3, 4, 5, 6, 7] rfl
      refine va_calli (va_runV (As := [.ref b0]) (rest := []) ⟨hx, hb, hml, hown, hts⟩ (c_X3_hasPlan l dC dI x0 s0 s1 s2 b0 b1 b2 b3 b4 b5 b6 b0 rt pl0 rd ri rs rk ks1 ks2 kb1 kb2 kb3 kb4 kb5 kb6 ld ud sd ov st tk gv hc ew sl ca lc rm lw ltk lgv lhc lew lsl lsh pr lr tb hi by_ se  (by first | assumption | omega) (by first | assumption | omega) (by first | assumption | omega) (by first | assumption | omega) (by first | assumption | omega) (by first | assumption | omega) (by first | assumption | omega) (by first | assumption | omega) (by first | assumption | omega) (by first | assumption | omega) (by first | assumption | omega) (by first | assumption | omega) ) (cwV 1 hts gX3_told_X3_hasPlan rfl rfl rfl (by decide +kernel) ⟨Nat.le_of_ble_eq_true rfl, Nat.le_of_ble_eq_true rfl⟩) ⟨fun a U g mk q => by obtain ⟨q0, qP, qK⟩ := q; exact ⟨q0, qP, va_K.moved (u := U) (U := U.calling g mk a) (Vm.Alike.refl U.vm) qK⟩, va_recv hKc hPc (ci := 3) (q0 := 0) rfl rfl, fun U hU hW => ⟨rfl, by rw [hU]; exact hPc, va_K.moved hW.alike hKc⟩⟩ rfl rfl hl.1 rfl (lv_room (Nat.le_of_ble_eq_true rfl)) dX3_told_206 ⟨Nat.le_of_ble_eq_true rfl, Nat.le_of_ble_eq_true rfl⟩) hS (fun q _ h => h.elim) (fun q h => h.elim) (fun r_8 u t H1 locs ht hvm hw hB hz1 hk1 hS => ?_)
      refine W.widen (k := 0) (n := 0) (Nat.le_of_ble_eq_true rfl) (Nat.le_of_ble_eq_true rfl) ?_
      have hP := hP.kept (H1 := H1) (fun k q hk => hk1 q.1 (hP k q hk).lt (fun h => h))
      clear hz1 hk1 hB ht hvm t
      generalize H1 = H at hP hS ⊢
      have hP : va_P (dC, dI) vwCl [(x0, .inr (3, [.ref s0, .ref b0, .ref rt, .ref pl0, .ref rd, .ref ri, .ref rs, .ref rk, .int ld, .int ud, .int sd])), (s0, .inr (2, [.int (nI ov), .int (nI st), .int (nI tk), .int (nI gv), .int hc, .int ew, .int sl, .int ca, .int (nI lc), .ref s1, .ref s2])), (s1, .inl (ks1, 24, .inl rm)), (s2, .inl (ks2, 60, .inl lw)), (b0, .inr (1, [.ref b1, .ref b2, .int (nI ltk), .int (nI lgv), .int lhc, .int lew, .int lsl, .int lsh, .ref b3, .ref b4, .ref b5, .ref b6])), (b1, .inl (kb1, 24, .inl pr)), (b2, .inl (kb2, 24, .inl lr)), (b3, .inl (kb3, 1525, .inl tb)), (b4, .inl (kb4, 25, .inl hi)), (b5, .inl (kb5, 24, .inl by_)), (b6, .inl (kb6, 24, .inl se)), (pl0, .inl (kp0, 24, .inl pn))] H := hP
      clear hw
      refine lv_if_eq (tgt := 221) hx hb dX3_told_209 (by decide) (fun c_209 => ?_) (fun c_209 => ?_)
      · refine lv_iconst (v := (-1)) hx hb dX3_told_221 (by decide) ?_
        subst hQe
        exact W.iret (v := ((-1))) hx hb hr (fun t ht hW => ⟨⟨_, (), rfl, trivial, trivial⟩, hS.F ht⟩) hS.2.2 dX3_told_222
      · refine lv_aload_n hx hb dX3_told_212 rfl (lv_at hl 0 rfl) ?_
        refine lv_bipush (v := nI 24) hx hb dX3_told_213 (by decide) ?_
        have hPc := hP.sub (ws' := [(x0, .inr (3, [.ref s0, .ref b0, .ref rt, .ref pl0, .ref rd, .ref ri, .ref rs, .ref rk, .int ld, .int ud, .int sd])), (s0, .inr (2, [.int (nI ov), .int (nI st), .int (nI tk), .int (nI gv), .int hc, .int ew, .int sl, .int ca, .int (nI lc), .ref s1, .ref s2])), (s1, .inl (ks1, 24, .inl rm)), (s2, .inl (ks2, 60, .inl lw)), (pl0, .inl (kp0, 24, .inl pn))]) [0, 1, 2, 3, 11] rfl
        have hKc := hK.sub (tys' := [(ks1, .int), (ks2, .int), (kp0, .int)]) [0, 1, 8] rfl
        refine va_calli (va_runV (As := [.int (nI 24)]) (rest := []) ⟨hx, hb, hml, hown, hts⟩ (c_X3_plannedBefore l dC dI x0 s0 s1 s2 pl0 b0 rt rd ri rs rk ks1 ks2 kp0 ld ud sd ov st tk gv hc ew sl ca lc rm lw pn 24 (by first | assumption | omega) (by first | assumption | omega) (by first | assumption | omega) (by first | assumption | omega) (by first | assumption | omega) (by first | assumption | omega) (by first | assumption | omega) (by first | assumption | omega)) (cwV 1 hts gX3_told_X3_plannedBefore rfl rfl rfl (by decide +kernel) ⟨Nat.le_of_ble_eq_true rfl, Nat.le_of_ble_eq_true rfl⟩) ⟨fun a U g mk q => by obtain ⟨q0, qP, qK⟩ := q; exact ⟨q0, qP, va_K.moved (u := U) (U := U.calling g mk a) (Vm.Alike.refl U.vm) qK⟩, va_recv hKc hPc (ci := 3) (q0 := 0) rfl rfl, fun U hU hW => ⟨rfl, by rw [hU]; exact hPc, va_K.moved hW.alike hKc⟩⟩ rfl rfl hl.1 rfl (lv_room (Nat.le_of_ble_eq_true rfl)) dX3_told_215 ⟨Nat.le_of_ble_eq_true rfl, Nat.le_of_ble_eq_true rfl⟩) hS (fun q _ h => h.elim) (fun q h => h.elim) (fun r_9 u t H1 locs ht hvm hw hB hz1 hk1 hS => ?_)
        refine W.widen (k := 0) (n := 0) (Nat.le_of_ble_eq_true rfl) (Nat.le_of_ble_eq_true rfl) ?_
        have hP := hP.kept (H1 := H1) (fun k q hk => hk1 q.1 (hP k q hk).lt (fun h => h))
        clear hz1 hk1 hB ht hvm t
        generalize H1 = H at hP hS ⊢
        have hP : va_P (dC, dI) vwCl [(x0, .inr (3, [.ref s0, .ref b0, .ref rt, .ref pl0, .ref rd, .ref ri, .ref rs, .ref rk, .int ld, .int ud, .int sd])), (s0, .inr (2, [.int (nI ov), .int (nI st), .int (nI tk), .int (nI gv), .int hc, .int ew, .int sl, .int ca, .int (nI lc), .ref s1, .ref s2])), (s1, .inl (ks1, 24, .inl rm)), (s2, .inl (ks2, 60, .inl lw)), (b0, .inr (1, [.ref b1, .ref b2, .int (nI ltk), .int (nI lgv), .int lhc, .int lew, .int lsl, .int lsh, .ref b3, .ref b4, .ref b5, .ref b6])), (b1, .inl (kb1, 24, .inl pr)), (b2, .inl (kb2, 24, .inl lr)), (b3, .inl (kb3, 1525, .inl tb)), (b4, .inl (kb4, 25, .inl hi)), (b5, .inl (kb5, 24, .inl by_)), (b6, .inl (kb6, 24, .inl se)), (pl0, .inl (kp0, 24, .inl pn))] H := hP
        clear hw
        refine lv_goto (tgt := 222) hx hb dX3_told_218 (by decide) ?_
        subst hQe
        exact W.iret (v := r_9) hx hb hr (fun t ht hW => ⟨⟨_, (), rfl, trivial, trivial⟩, hS.F ht⟩) hS.2.2 dX3_told_222
    · refine lv_tableIn (off := (222)) (tgt := 223) hx hb dX3_told_1 (by decide) (by decide) (by decide) (by decide) ?_
      refine lv_aload_n hx hb dX3_told_223 rfl (lv_at hl 0 rfl) ?_
      refine va_get (D := (dC, dI)) (ci := 3) (v := .int ud) (C := RX3) (T := TX3) (N := 11) hx hb hts inX3 hown hK hP 0 rfl rfl 9 (by decide) (hts (.fieldLink RX3 97 "StoreSlopes" "undoable" "I") (List.mem_of_getElem? (i := 13) rfl)) (fun _ h9 => h9) rfl dX3_told_224 ?_
      subst hQe
      exact W.iret (v := ud) hx hb hr (fun t ht hW => ⟨⟨_, (), rfl, trivial, trivial⟩, hS.F ht⟩) hS.2.2 dX3_told_227
  · refine lv_tableOut (tgt := 228) hx hb dX3_told_1 (by omega) (by decide) ?_
    refine lv_ldc (own := RX3) (v := (-1000000002)) hx hb hown (hts (.constant RX3 100 (-1000000002)) (List.mem_of_getElem? (i := 14) rfl)) dX3_told_228 ?_
    subst hQe
    exact W.iret (v := ((-1000000002))) hx hb hr (fun t ht hW => ⟨⟨_, (), rfl, trivial, trivial⟩, hS.F ht⟩) hS.2.2 dX3_told_230
set_option maxHeartbeats 4000000 in
set_option maxRecDepth 100000 in
theorem c_X3_lawAt (l : Launch) (dC : Nat → ClassId) (dI : Nat → Nat → Nat) (x0 s0 s1 s2 ra rt rp rd ri rs rk : Nat) (ks1 ks2 : ClassId) (ld : Int32) (ud : Int32) (sd : Int32) (ov : Nat) (st : Nat) (tk : Nat) (gv : Nat) (hc : Int32) (ew : Int32) (sl : Int32) (ca : Int32) (lc : Nat) (rm : Nat → Int32) (lw : Nat → Int32) (i : Int32) (w : Int32) (i0 : ov ≤ 24) (i1 : st ≤ 60) (i2 : tk ≤ 9) (i3 : gv ≤ 9) (i4 : lc ≤ 12) (i5 : bdA 60 24 rm) : Met l yX3_lawAt wsX3_lawAt ({ frames := 4, cells := 0, slots := 0, locals := 89 }) (va_Pc [.ref x0, .int i, .int w] (fun U => va_P (dC, dI) vwCl [(x0, .inr (3, [.ref s0, .ref ra, .ref rt, .ref rp, .ref rd, .ref ri, .ref rs, .ref rk, .int ld, .int ud, .int sd])), (s0, .inr (2, [.int (nI ov), .int (nI st), .int (nI tk), .int (nI gv), .int hc, .int ew, .int sl, .int ca, .int (nI lc), .ref s1, .ref s2])), (s1, .inl (ks1, 24, .inl rm)), (s2, .inl (ks2, 60, .inl lw))] U.heap ∧ va_K (dC, dI) vwCl [(ks1, .int), (ks2, .int)] U)) (va_Qi (fun r (_ : Unit) => True) (fun _ _ => True) (fun _ => False)) 0 0 (fun _ => False) := by
  refine Met.ofW (cc := cX3_lawAt) (maxL := 3) (ret := (some .int)) (by decide) rfl ?_
  intro p e s m args below meth c s₁ B hml hv
  obtain ⟨rfl, hP, hK⟩ := hv
  have hx := B.exec
  have hb := B.bytes
  have hr := B.returns
  have hts := atoms_spec (ws := wsX3_lawAt) B.pre
  have hown : s.vm.findClass RX3 = some m.cls := findClass_of_methodNamed B.named
  have hlocks := B.notSynchronized
  have inX3 : ∀ w ∈ wsX30, w ∈ wsX3_lawAt := fun _ h => List.mem_cons_of_mem _ (List.mem_append_left _ (List.mem_append_right _ h))
  have inX2 : ∀ w ∈ wsX20, w ∈ wsX3_lawAt := fun _ h => List.mem_cons_of_mem _ (List.mem_append_right _ h)
  have hS : va_S (fun _ => False) s.heap s.heap [] := va_S.rf
  have hl := lv_entry ([.ref x0, .int i, .int w]) (n := 3) (Nat.le_of_ble_eq_true rfl)
  rw [lg_entry_eq]
  generalize (lg_sl ([.ref x0, .int i, .int w]) ++ List.replicate (3 - (lg_sl ([.ref x0, .int i, .int w])).length) Slot.unset).toArray = ls at hl ⊢
  generalize hQe : MQ below _ _ s 0 0 _ = Q
  generalize ([.ref x0, .int i, .int w] : List Value).toArray = args at hts hQe ⊢
  have hl : lv_has ls 3 [(0, .ref x0), (1, .int i), (2, .int w)] := hl
  refine lv_aload_n hx hb dX3_lawAt_0 rfl (lv_at hl 0 rfl) ?_
  refine lv_iload_n hx hb dX3_lawAt_1 rfl (lv_at hl 1 rfl) ?_
  have hPc := hP.sub (ws' := [(x0, .inr (3, [.ref s0, .ref ra, .ref rt, .ref rp, .ref rd, .ref ri, .ref rs, .ref rk, .int ld, .int ud, .int sd])), (s0, .inr (2, [.int (nI ov), .int (nI st), .int (nI tk), .int (nI gv), .int hc, .int ew, .int sl, .int ca, .int (nI lc), .ref s1, .ref s2])), (s1, .inl (ks1, 24, .inl rm)), (s2, .inl (ks2, 60, .inl lw))]) [0, 1, 2, 3] rfl
  have hKc := hK.sub (tys' := [(ks1, .int), (ks2, .int)]) [0, 1] rfl
  refine va_calli (va_runV (As := [.int i]) (rest := []) ⟨hx, hb, hml, hown, hts⟩ (c_X3_isLaw l dC dI x0 s0 s1 s2 ra rt rp rd ri rs rk ks1 ks2 ld ud sd ov st tk gv hc ew sl ca lc rm lw i (by first | assumption | omega) (by first | assumption | omega) (by first | assumption | omega) (by first | assumption | omega) (by first | assumption | omega) (by first | assumption | omega) ) (cwV 1 hts gX3_lawAt_X3_isLaw rfl rfl rfl (by decide +kernel) ⟨Nat.le_of_ble_eq_true rfl, Nat.le_of_ble_eq_true rfl⟩) ⟨fun a U g mk q => by obtain ⟨q0, qP, qK⟩ := q; exact ⟨q0, qP, va_K.moved (u := U) (U := U.calling g mk a) (Vm.Alike.refl U.vm) qK⟩, va_recv hKc hPc (ci := 3) (q0 := 0) rfl rfl, fun U hU hW => ⟨rfl, by rw [hU]; exact hPc, va_K.moved hW.alike hKc⟩⟩ rfl rfl hl.1 rfl (lv_room (Nat.le_of_ble_eq_true rfl)) dX3_lawAt_2 ⟨Nat.le_of_ble_eq_true rfl, Nat.le_of_ble_eq_true rfl⟩) hS (fun q _ h => h.elim) (fun q h => h.elim) (fun r_1 u t H1 locs ht hvm hw hB hz1 hk1 hS => ?_)
  refine W.widen (k := 0) (n := 0) (Nat.le_of_ble_eq_true rfl) (Nat.le_of_ble_eq_true rfl) ?_
  have hP := hP.kept (H1 := H1) (fun k q hk => hk1 q.1 (hP k q hk).lt (fun h => h))
  clear hz1 hk1 hB ht hvm t
  generalize H1 = H at hP hS ⊢
  have hP : va_P (dC, dI) vwCl [(x0, .inr (3, [.ref s0, .ref ra, .ref rt, .ref rp, .ref rd, .ref ri, .ref rs, .ref rk, .int ld, .int ud, .int sd])), (s0, .inr (2, [.int (nI ov), .int (nI st), .int (nI tk), .int (nI gv), .int hc, .int ew, .int sl, .int ca, .int (nI lc), .ref s1, .ref s2])), (s1, .inl (ks1, 24, .inl rm)), (s2, .inl (ks2, 60, .inl lw))] H := hP
  have wr_1 := hw
  clear hw
  refine lv_if_ne (tgt := 11) hx hb dX3_lawAt_5 (by decide) (fun c_5 => ?_) (fun c_5 => ?_)
  · obtain ⟨j_2, hj_2, rfl⟩ := b_1 wr_1 c_5
    refine lv_iload_n hx hb dX3_lawAt_11 rfl (lv_at hl 2 rfl) ?_
    rcases tb_cases w (n := 5) (by decide) with ⟨k_12, hk_12, ek_12⟩ | c_12
    · subst ek_12
      rcases (show k_12 = 0 ∨ k_12 = 1 ∨ k_12 = 2 ∨ k_12 = 3 ∨ k_12 = 4 ∨ k_12 = 5 by omega) with rfl | rfl | rfl | rfl | rfl | rfl
      · refine lv_tableIn (off := (40)) (tgt := 52) hx hb dX3_lawAt_12 (by decide) (by decide) (by decide) (by decide) ?_
        refine lv_aload_n hx hb dX3_lawAt_52 rfl (lv_at hl 0 rfl) ?_
        refine va_get (D := (dC, dI)) (ci := 3) (v := .ref s0) (C := RX3) (T := TX3) (N := 11) hx hb hts inX3 hown hK hP 0 rfl rfl 0 (by decide) (hts (.fieldLink RX3 12 "StoreSlopes" "now" "LStoreSlopes$State;") (List.mem_of_getElem? (i := 2) rfl)) (fun _ h9 => h9) rfl dX3_lawAt_53 ?_
        refine lv_iload_n hx hb dX3_lawAt_56 rfl (lv_at hl 1 rfl) ?_
        refine lv_iconst (v := nI 0) hx hb dX3_lawAt_57 (by decide) ?_
        have hPc := hP.sub (ws' := [(s0, .inr (2, [.int (nI ov), .int (nI st), .int (nI tk), .int (nI gv), .int hc, .int ew, .int sl, .int ca, .int (nI lc), .ref s1, .ref s2])), (s1, .inl (ks1, 24, .inl rm)), (s2, .inl (ks2, 60, .inl lw))]) [1, 2, 3] rfl
        have hKc := hK.sub (tys' := [(ks1, .int), (ks2, .int)]) [0, 1] rfl
        refine va_calli (va_runV (As := [.int (nI j_2), .int (nI 0)]) (rest := []) ⟨hx, hb, hml, hown, hts⟩ (c_X2_lawPart l dC dI s0 s1 s2 ks1 ks2 ov st tk gv hc ew sl ca lc rm lw j_2 0 (by first | assumption | omega) (by first | assumption | omega) (by first | assumption | omega) (by first | assumption | omega) (by first | assumption | omega) (by first | assumption | omega) (by first | assumption | omega) (by first | assumption | omega)) (cwV 2 hts gX3_lawAt_X2_lawPart rfl rfl rfl (by decide +kernel) ⟨Nat.le_of_ble_eq_true rfl, Nat.le_of_ble_eq_true rfl⟩) ⟨fun a U g mk q => by obtain ⟨q0, qP, qK⟩ := q; exact ⟨q0, qP, va_K.moved (u := U) (U := U.calling g mk a) (Vm.Alike.refl U.vm) qK⟩, va_recv hKc hPc (ci := 2) (q0 := 0) rfl rfl, fun U hU hW => ⟨rfl, by rw [hU]; exact hPc, va_K.moved hW.alike hKc⟩⟩ rfl rfl hl.1 rfl (lv_room (Nat.le_of_ble_eq_true rfl)) dX3_lawAt_58 ⟨Nat.le_of_ble_eq_true rfl, Nat.le_of_ble_eq_true rfl⟩) hS (fun q _ h => h.elim) (fun q h => h.elim) (fun r_3 u t H1 locs ht hvm hw hB hz1 hk1 hS => ?_)
        refine W.widen (k := 0) (n := 0) (Nat.le_of_ble_eq_true rfl) (Nat.le_of_ble_eq_true rfl) ?_
        have hP := hP.kept (H1 := H1) (fun k q hk => hk1 q.1 (hP k q hk).lt (fun h => h))
        clear hz1 hk1 hB ht hvm t
        generalize H1 = H at hP hS ⊢
        have hP : va_P (dC, dI) vwCl [(x0, .inr (3, [.ref s0, .ref ra, .ref rt, .ref rp, .ref rd, .ref ri, .ref rs, .ref rk, .int ld, .int ud, .int sd])), (s0, .inr (2, [.int (nI ov), .int (nI st), .int (nI tk), .int (nI gv), .int hc, .int ew, .int sl, .int ca, .int (nI lc), .ref s1, .ref s2])), (s1, .inl (ks1, 24, .inl rm)), (s2, .inl (ks2, 60, .inl lw))] H := hP
        clear hw
        subst hQe
        exact W.iret (v := r_3) hx hb hr (fun t ht hW => ⟨⟨_, (), rfl, trivial, trivial⟩, hS.F ht⟩) hS.2.2 dX3_lawAt_61
      · refine lv_tableIn (off := (50)) (tgt := 62) hx hb dX3_lawAt_12 (by decide) (by decide) (by decide) (by decide) ?_
        refine lv_aload_n hx hb dX3_lawAt_62 rfl (lv_at hl 0 rfl) ?_
        refine va_get (D := (dC, dI)) (ci := 3) (v := .ref s0) (C := RX3) (T := TX3) (N := 11) hx hb hts inX3 hown hK hP 0 rfl rfl 0 (by decide) (hts (.fieldLink RX3 12 "StoreSlopes" "now" "LStoreSlopes$State;") (List.mem_of_getElem? (i := 2) rfl)) (fun _ h9 => h9) rfl dX3_lawAt_63 ?_
        refine lv_iload_n hx hb dX3_lawAt_66 rfl (lv_at hl 1 rfl) ?_
        refine lv_iconst (v := nI 1) hx hb dX3_lawAt_67 (by decide) ?_
        have hPc := hP.sub (ws' := [(s0, .inr (2, [.int (nI ov), .int (nI st), .int (nI tk), .int (nI gv), .int hc, .int ew, .int sl, .int ca, .int (nI lc), .ref s1, .ref s2])), (s1, .inl (ks1, 24, .inl rm)), (s2, .inl (ks2, 60, .inl lw))]) [1, 2, 3] rfl
        have hKc := hK.sub (tys' := [(ks1, .int), (ks2, .int)]) [0, 1] rfl
        refine va_calli (va_runV (As := [.int (nI j_2), .int (nI 1)]) (rest := []) ⟨hx, hb, hml, hown, hts⟩ (c_X2_lawPart l dC dI s0 s1 s2 ks1 ks2 ov st tk gv hc ew sl ca lc rm lw j_2 1 (by first | assumption | omega) (by first | assumption | omega) (by first | assumption | omega) (by first | assumption | omega) (by first | assumption | omega) (by first | assumption | omega) (by first | assumption | omega) (by first | assumption | omega)) (cwV 2 hts gX3_lawAt_X2_lawPart rfl rfl rfl (by decide +kernel) ⟨Nat.le_of_ble_eq_true rfl, Nat.le_of_ble_eq_true rfl⟩) ⟨fun a U g mk q => by obtain ⟨q0, qP, qK⟩ := q; exact ⟨q0, qP, va_K.moved (u := U) (U := U.calling g mk a) (Vm.Alike.refl U.vm) qK⟩, va_recv hKc hPc (ci := 2) (q0 := 0) rfl rfl, fun U hU hW => ⟨rfl, by rw [hU]; exact hPc, va_K.moved hW.alike hKc⟩⟩ rfl rfl hl.1 rfl (lv_room (Nat.le_of_ble_eq_true rfl)) dX3_lawAt_68 ⟨Nat.le_of_ble_eq_true rfl, Nat.le_of_ble_eq_true rfl⟩) hS (fun q _ h => h.elim) (fun q h => h.elim) (fun r_4 u t H1 locs ht hvm hw hB hz1 hk1 hS => ?_)
        refine W.widen (k := 0) (n := 0) (Nat.le_of_ble_eq_true rfl) (Nat.le_of_ble_eq_true rfl) ?_
        have hP := hP.kept (H1 := H1) (fun k q hk => hk1 q.1 (hP k q hk).lt (fun h => h))
        clear hz1 hk1 hB ht hvm t
        generalize H1 = H at hP hS ⊢
        have hP : va_P (dC, dI) vwCl [(x0, .inr (3, [.ref s0, .ref ra, .ref rt, .ref rp, .ref rd, .ref ri, .ref rs, .ref rk, .int ld, .int ud, .int sd])), (s0, .inr (2, [.int (nI ov), .int (nI st), .int (nI tk), .int (nI gv), .int hc, .int ew, .int sl, .int ca, .int (nI lc), .ref s1, .ref s2])), (s1, .inl (ks1, 24, .inl rm)), (s2, .inl (ks2, 60, .inl lw))] H := hP
        clear hw
        subst hQe
        exact W.iret (v := r_4) hx hb hr (fun t ht hW => ⟨⟨_, (), rfl, trivial, trivial⟩, hS.F ht⟩) hS.2.2 dX3_lawAt_71
      · refine lv_tableIn (off := (60)) (tgt := 72) hx hb dX3_lawAt_12 (by decide) (by decide) (by decide) (by decide) ?_
        refine lv_aload_n hx hb dX3_lawAt_72 rfl (lv_at hl 0 rfl) ?_
        refine va_get (D := (dC, dI)) (ci := 3) (v := .ref s0) (C := RX3) (T := TX3) (N := 11) hx hb hts inX3 hown hK hP 0 rfl rfl 0 (by decide) (hts (.fieldLink RX3 12 "StoreSlopes" "now" "LStoreSlopes$State;") (List.mem_of_getElem? (i := 2) rfl)) (fun _ h9 => h9) rfl dX3_lawAt_73 ?_
        refine lv_iload_n hx hb dX3_lawAt_76 rfl (lv_at hl 1 rfl) ?_
        refine lv_iconst (v := nI 2) hx hb dX3_lawAt_77 (by decide) ?_
        have hPc := hP.sub (ws' := [(s0, .inr (2, [.int (nI ov), .int (nI st), .int (nI tk), .int (nI gv), .int hc, .int ew, .int sl, .int ca, .int (nI lc), .ref s1, .ref s2])), (s1, .inl (ks1, 24, .inl rm)), (s2, .inl (ks2, 60, .inl lw))]) [1, 2, 3] rfl
        have hKc := hK.sub (tys' := [(ks1, .int), (ks2, .int)]) [0, 1] rfl
        refine va_calli (va_runV (As := [.int (nI j_2), .int (nI 2)]) (rest := []) ⟨hx, hb, hml, hown, hts⟩ (c_X2_lawPart l dC dI s0 s1 s2 ks1 ks2 ov st tk gv hc ew sl ca lc rm lw j_2 2 (by first | assumption | omega) (by first | assumption | omega) (by first | assumption | omega) (by first | assumption | omega) (by first | assumption | omega) (by first | assumption | omega) (by first | assumption | omega) (by first | assumption | omega)) (cwV 2 hts gX3_lawAt_X2_lawPart rfl rfl rfl (by decide +kernel) ⟨Nat.le_of_ble_eq_true rfl, Nat.le_of_ble_eq_true rfl⟩) ⟨fun a U g mk q => by obtain ⟨q0, qP, qK⟩ := q; exact ⟨q0, qP, va_K.moved (u := U) (U := U.calling g mk a) (Vm.Alike.refl U.vm) qK⟩, va_recv hKc hPc (ci := 2) (q0 := 0) rfl rfl, fun U hU hW => ⟨rfl, by rw [hU]; exact hPc, va_K.moved hW.alike hKc⟩⟩ rfl rfl hl.1 rfl (lv_room (Nat.le_of_ble_eq_true rfl)) dX3_lawAt_78 ⟨Nat.le_of_ble_eq_true rfl, Nat.le_of_ble_eq_true rfl⟩) hS (fun q _ h => h.elim) (fun q h => h.elim) (fun r_5 u t H1 locs ht hvm hw hB hz1 hk1 hS => ?_)
        refine W.widen (k := 0) (n := 0) (Nat.le_of_ble_eq_true rfl) (Nat.le_of_ble_eq_true rfl) ?_
        have hP := hP.kept (H1 := H1) (fun k q hk => hk1 q.1 (hP k q hk).lt (fun h => h))
        clear hz1 hk1 hB ht hvm t
        generalize H1 = H at hP hS ⊢
        have hP : va_P (dC, dI) vwCl [(x0, .inr (3, [.ref s0, .ref ra, .ref rt, .ref rp, .ref rd, .ref ri, .ref rs, .ref rk, .int ld, .int ud, .int sd])), (s0, .inr (2, [.int (nI ov), .int (nI st), .int (nI tk), .int (nI gv), .int hc, .int ew, .int sl, .int ca, .int (nI lc), .ref s1, .ref s2])), (s1, .inl (ks1, 24, .inl rm)), (s2, .inl (ks2, 60, .inl lw))] H := hP
        clear hw
        subst hQe
        exact W.iret (v := r_5) hx hb hr (fun t ht hW => ⟨⟨_, (), rfl, trivial, trivial⟩, hS.F ht⟩) hS.2.2 dX3_lawAt_81
      · refine lv_tableIn (off := (70)) (tgt := 82) hx hb dX3_lawAt_12 (by decide) (by decide) (by decide) (by decide) ?_
        refine lv_aload_n hx hb dX3_lawAt_82 rfl (lv_at hl 0 rfl) ?_
        refine va_get (D := (dC, dI)) (ci := 3) (v := .ref s0) (C := RX3) (T := TX3) (N := 11) hx hb hts inX3 hown hK hP 0 rfl rfl 0 (by decide) (hts (.fieldLink RX3 12 "StoreSlopes" "now" "LStoreSlopes$State;") (List.mem_of_getElem? (i := 2) rfl)) (fun _ h9 => h9) rfl dX3_lawAt_83 ?_
        refine lv_iload_n hx hb dX3_lawAt_86 rfl (lv_at hl 1 rfl) ?_
        refine lv_iconst (v := nI 3) hx hb dX3_lawAt_87 (by decide) ?_
        have hPc := hP.sub (ws' := [(s0, .inr (2, [.int (nI ov), .int (nI st), .int (nI tk), .int (nI gv), .int hc, .int ew, .int sl, .int ca, .int (nI lc), .ref s1, .ref s2])), (s1, .inl (ks1, 24, .inl rm)), (s2, .inl (ks2, 60, .inl lw))]) [1, 2, 3] rfl
        have hKc := hK.sub (tys' := [(ks1, .int), (ks2, .int)]) [0, 1] rfl
        refine va_calli (va_runV (As := [.int (nI j_2), .int (nI 3)]) (rest := []) ⟨hx, hb, hml, hown, hts⟩ (c_X2_lawPart l dC dI s0 s1 s2 ks1 ks2 ov st tk gv hc ew sl ca lc rm lw j_2 3 (by first | assumption | omega) (by first | assumption | omega) (by first | assumption | omega) (by first | assumption | omega) (by first | assumption | omega) (by first | assumption | omega) (by first | assumption | omega) (by first | assumption | omega)) (cwV 2 hts gX3_lawAt_X2_lawPart rfl rfl rfl (by decide +kernel) ⟨Nat.le_of_ble_eq_true rfl, Nat.le_of_ble_eq_true rfl⟩) ⟨fun a U g mk q => by obtain ⟨q0, qP, qK⟩ := q; exact ⟨q0, qP, va_K.moved (u := U) (U := U.calling g mk a) (Vm.Alike.refl U.vm) qK⟩, va_recv hKc hPc (ci := 2) (q0 := 0) rfl rfl, fun U hU hW => ⟨rfl, by rw [hU]; exact hPc, va_K.moved hW.alike hKc⟩⟩ rfl rfl hl.1 rfl (lv_room (Nat.le_of_ble_eq_true rfl)) dX3_lawAt_88 ⟨Nat.le_of_ble_eq_true rfl, Nat.le_of_ble_eq_true rfl⟩) hS (fun q _ h => h.elim) (fun q h => h.elim) (fun r_6 u t H1 locs ht hvm hw hB hz1 hk1 hS => ?_)
        refine W.widen (k := 0) (n := 0) (Nat.le_of_ble_eq_true rfl) (Nat.le_of_ble_eq_true rfl) ?_
        have hP := hP.kept (H1 := H1) (fun k q hk => hk1 q.1 (hP k q hk).lt (fun h => h))
        clear hz1 hk1 hB ht hvm t
        generalize H1 = H at hP hS ⊢
        have hP : va_P (dC, dI) vwCl [(x0, .inr (3, [.ref s0, .ref ra, .ref rt, .ref rp, .ref rd, .ref ri, .ref rs, .ref rk, .int ld, .int ud, .int sd])), (s0, .inr (2, [.int (nI ov), .int (nI st), .int (nI tk), .int (nI gv), .int hc, .int ew, .int sl, .int ca, .int (nI lc), .ref s1, .ref s2])), (s1, .inl (ks1, 24, .inl rm)), (s2, .inl (ks2, 60, .inl lw))] H := hP
        clear hw
        refine lv_bipush (v := nI 100) hx hb dX3_lawAt_91 (by decide) ?_
        refine lv_iadd hx hb dX3_lawAt_93 ?_
        refine tp_any (fun y_7 => ?_)
        subst hQe
        exact W.iret (v := y_7) hx hb hr (fun t ht hW => ⟨⟨_, (), rfl, trivial, trivial⟩, hS.F ht⟩) hS.2.2 dX3_lawAt_94
      · refine lv_tableIn (off := (83)) (tgt := 95) hx hb dX3_lawAt_12 (by decide) (by decide) (by decide) (by decide) ?_
        refine lv_aload_n hx hb dX3_lawAt_95 rfl (lv_at hl 0 rfl) ?_
        refine va_get (D := (dC, dI)) (ci := 3) (v := .ref s0) (C := RX3) (T := TX3) (N := 11) hx hb hts inX3 hown hK hP 0 rfl rfl 0 (by decide) (hts (.fieldLink RX3 12 "StoreSlopes" "now" "LStoreSlopes$State;") (List.mem_of_getElem? (i := 2) rfl)) (fun _ h9 => h9) rfl dX3_lawAt_96 ?_
        refine lv_iload_n hx hb dX3_lawAt_99 rfl (lv_at hl 1 rfl) ?_
        refine lv_iconst (v := nI 4) hx hb dX3_lawAt_100 (by decide) ?_
        have hPc := hP.sub (ws' := [(s0, .inr (2, [.int (nI ov), .int (nI st), .int (nI tk), .int (nI gv), .int hc, .int ew, .int sl, .int ca, .int (nI lc), .ref s1, .ref s2])), (s1, .inl (ks1, 24, .inl rm)), (s2, .inl (ks2, 60, .inl lw))]) [1, 2, 3] rfl
        have hKc := hK.sub (tys' := [(ks1, .int), (ks2, .int)]) [0, 1] rfl
        refine va_calli (va_runV (As := [.int (nI j_2), .int (nI 4)]) (rest := []) ⟨hx, hb, hml, hown, hts⟩ (c_X2_lawPart l dC dI s0 s1 s2 ks1 ks2 ov st tk gv hc ew sl ca lc rm lw j_2 4 (by first | assumption | omega) (by first | assumption | omega) (by first | assumption | omega) (by first | assumption | omega) (by first | assumption | omega) (by first | assumption | omega) (by first | assumption | omega) (by first | assumption | omega)) (cwV 2 hts gX3_lawAt_X2_lawPart rfl rfl rfl (by decide +kernel) ⟨Nat.le_of_ble_eq_true rfl, Nat.le_of_ble_eq_true rfl⟩) ⟨fun a U g mk q => by obtain ⟨q0, qP, qK⟩ := q; exact ⟨q0, qP, va_K.moved (u := U) (U := U.calling g mk a) (Vm.Alike.refl U.vm) qK⟩, va_recv hKc hPc (ci := 2) (q0 := 0) rfl rfl, fun U hU hW => ⟨rfl, by rw [hU]; exact hPc, va_K.moved hW.alike hKc⟩⟩ rfl rfl hl.1 rfl (lv_room (Nat.le_of_ble_eq_true rfl)) dX3_lawAt_101 ⟨Nat.le_of_ble_eq_true rfl, Nat.le_of_ble_eq_true rfl⟩) hS (fun q _ h => h.elim) (fun q h => h.elim) (fun r_8 u t H1 locs ht hvm hw hB hz1 hk1 hS => ?_)
        refine W.widen (k := 0) (n := 0) (Nat.le_of_ble_eq_true rfl) (Nat.le_of_ble_eq_true rfl) ?_
        have hP := hP.kept (H1 := H1) (fun k q hk => hk1 q.1 (hP k q hk).lt (fun h => h))
        clear hz1 hk1 hB ht hvm t
        generalize H1 = H at hP hS ⊢
        have hP : va_P (dC, dI) vwCl [(x0, .inr (3, [.ref s0, .ref ra, .ref rt, .ref rp, .ref rd, .ref ri, .ref rs, .ref rk, .int ld, .int ud, .int sd])), (s0, .inr (2, [.int (nI ov), .int (nI st), .int (nI tk), .int (nI gv), .int hc, .int ew, .int sl, .int ca, .int (nI lc), .ref s1, .ref s2])), (s1, .inl (ks1, 24, .inl rm)), (s2, .inl (ks2, 60, .inl lw))] H := hP
        clear hw
        refine lv_bipush (v := nI 10) hx hb dX3_lawAt_104 (by decide) ?_
        refine lv_iadd hx hb dX3_lawAt_106 ?_
        refine tp_any (fun y_9 => ?_)
        subst hQe
        exact W.iret (v := y_9) hx hb hr (fun t ht hW => ⟨⟨_, (), rfl, trivial, trivial⟩, hS.F ht⟩) hS.2.2 dX3_lawAt_107
      · refine lv_tableIn (off := (96)) (tgt := 108) hx hb dX3_lawAt_12 (by decide) (by decide) (by decide) (by decide) ?_
        refine lv_aload_n hx hb dX3_lawAt_108 rfl (lv_at hl 0 rfl) ?_
        refine va_get (D := (dC, dI)) (ci := 3) (v := .ref s0) (C := RX3) (T := TX3) (N := 11) hx hb hts inX3 hown hK hP 0 rfl rfl 0 (by decide) (hts (.fieldLink RX3 12 "StoreSlopes" "now" "LStoreSlopes$State;") (List.mem_of_getElem? (i := 2) rfl)) (fun _ h9 => h9) rfl dX3_lawAt_109 ?_
        refine lv_iload_n hx hb dX3_lawAt_112 rfl (lv_at hl 1 rfl) ?_
        have hPc := hP.sub (ws' := [(s0, .inr (2, [.int (nI ov), .int (nI st), .int (nI tk), .int (nI gv), .int hc, .int ew, .int sl, .int ca, .int (nI lc), .ref s1, .ref s2])), (s1, .inl (ks1, 24, .inl rm)), (s2, .inl (ks2, 60, .inl lw))]) [1, 2, 3] rfl
        have hKc := hK.sub (tys' := [(ks1, .int), (ks2, .int)]) [0, 1] rfl
        refine va_calli (va_runV (As := [.int (nI j_2)]) (rest := []) ⟨hx, hb, hml, hown, hts⟩ (c_X2_hoursRuledBy l dC dI s0 s1 s2 ks1 ks2 ov st tk gv hc ew sl ca lc rm lw (nI j_2) (by first | assumption | omega) (by first | assumption | omega) (by first | assumption | omega) (by first | assumption | omega) (by first | assumption | omega) (by first | assumption | omega) ) (cwV 1 hts gX3_lawAt_X2_hoursRuledBy rfl rfl rfl (by decide +kernel) ⟨Nat.le_of_ble_eq_true rfl, Nat.le_of_ble_eq_true rfl⟩) ⟨fun a U g mk q => by obtain ⟨q0, qP, qK⟩ := q; exact ⟨q0, qP, va_K.moved (u := U) (U := U.calling g mk a) (Vm.Alike.refl U.vm) qK⟩, va_recv hKc hPc (ci := 2) (q0 := 0) rfl rfl, fun U hU hW => ⟨rfl, by rw [hU]; exact hPc, va_K.moved hW.alike hKc⟩⟩ rfl rfl hl.1 rfl (lv_room (Nat.le_of_ble_eq_true rfl)) dX3_lawAt_113 ⟨Nat.le_of_ble_eq_true rfl, Nat.le_of_ble_eq_true rfl⟩) hS (fun q _ h => h.elim) (fun q h => h.elim) (fun r_10 u t H1 locs ht hvm hw hB hz1 hk1 hS => ?_)
        refine W.widen (k := 0) (n := 0) (Nat.le_of_ble_eq_true rfl) (Nat.le_of_ble_eq_true rfl) ?_
        have hP := hP.kept (H1 := H1) (fun k q hk => hk1 q.1 (hP k q hk).lt (fun h => h))
        clear hz1 hk1 hB ht hvm t
        generalize H1 = H at hP hS ⊢
        have hP : va_P (dC, dI) vwCl [(x0, .inr (3, [.ref s0, .ref ra, .ref rt, .ref rp, .ref rd, .ref ri, .ref rs, .ref rk, .int ld, .int ud, .int sd])), (s0, .inr (2, [.int (nI ov), .int (nI st), .int (nI tk), .int (nI gv), .int hc, .int ew, .int sl, .int ca, .int (nI lc), .ref s1, .ref s2])), (s1, .inl (ks1, 24, .inl rm)), (s2, .inl (ks2, 60, .inl lw))] H := hP
        clear hw
        subst hQe
        exact W.iret (v := r_10) hx hb hr (fun t ht hW => ⟨⟨_, (), rfl, trivial, trivial⟩, hS.F ht⟩) hS.2.2 dX3_lawAt_116
    · refine lv_tableOut (tgt := 117) hx hb dX3_lawAt_12 (by omega) (by decide) ?_
      refine lv_ldc (own := RX3) (v := (-1000000002)) hx hb hown (hts (.constant RX3 100 (-1000000002)) (List.mem_of_getElem? (i := 3) rfl)) dX3_lawAt_117 ?_
      subst hQe
      exact W.iret (v := ((-1000000002))) hx hb hr (fun t ht hW => ⟨⟨_, (), rfl, trivial, trivial⟩, hS.F ht⟩) hS.2.2 dX3_lawAt_119
  · have nc_5 := b_0 wr_1 c_5
    refine lv_ldc (own := RX3) (v := (-1000000001)) hx hb hown (hts (.constant RX3 105 (-1000000001)) (List.mem_of_getElem? (i := 1) rfl)) dX3_lawAt_8 ?_
    subst hQe
    exact W.iret (v := ((-1000000001))) hx hb hr (fun t ht hW => ⟨⟨_, (), rfl, trivial, trivial⟩, hS.F ht⟩) hS.2.2 dX3_lawAt_10
set_option maxHeartbeats 4000000 in
set_option maxRecDepth 100000 in
theorem c_X3_value (l : Launch) (dC : Nat → ClassId) (dI : Nat → Nat → Nat) (x0 b0 b1 b2 b3 b4 b5 b6 rn rt rp rd ri rs rk : Nat) (kb1 kb2 kb3 kb4 kb5 kb6 : ClassId) (ld : Int32) (ud : Int32) (sd : Int32) (ltk : Nat) (lgv : Nat) (lhc : Int32) (lew : Int32) (lsl : Int32) (lsh : Int32) (pr : Nat → Int32) (lr : Nat → Int32) (tb : Nat → Int32) (hi : Nat → Int32) (by_ : Nat → Int32) (se : Nat → Int32) (h : Int32) (v : Int32) (i0 : ltk ≤ 9) (i1 : lgv ≤ 9) (i2 : bdA 60 24 lr) (i3 : bdA 60 25 hi) (i4 : bdA 60 24 by_) (i5 : bdA 60 24 se) : Met l yX3_value wsX3_value ({ frames := 1, cells := 0, slots := 0, locals := 22 }) (va_Pc [.ref x0, .int h, .int v] (fun U => va_P (dC, dI) vwCl [(x0, .inr (3, [.ref rn, .ref b0, .ref rt, .ref rp, .ref rd, .ref ri, .ref rs, .ref rk, .int ld, .int ud, .int sd])), (b0, .inr (1, [.ref b1, .ref b2, .int (nI ltk), .int (nI lgv), .int lhc, .int lew, .int lsl, .int lsh, .ref b3, .ref b4, .ref b5, .ref b6])), (b1, .inl (kb1, 24, .inl pr)), (b2, .inl (kb2, 24, .inl lr)), (b3, .inl (kb3, 1525, .inl tb)), (b4, .inl (kb4, 25, .inl hi)), (b5, .inl (kb5, 24, .inl by_)), (b6, .inl (kb6, 24, .inl se))] U.heap ∧ va_K (dC, dI) vwCl [(kb1, .int), (kb2, .int), (kb3, .int), (kb4, .int), (kb5, .int), (kb6, .int)] U)) (va_Qi (fun r (_ : Unit) => True) (fun _ _ => True) (fun _ => False)) 0 0 (fun _ => False) := by
  refine Met.ofW (cc := cX3_value) (maxL := 3) (ret := (some .int)) (by decide) rfl ?_
  intro p e s m args below meth c s₁ B hml hv
  obtain ⟨rfl, hP, hK⟩ := hv
  have hx := B.exec
  have hb := B.bytes
  have hr := B.returns
  have hts := atoms_spec (ws := wsX3_value) B.pre
  have hown : s.vm.findClass RX3 = some m.cls := findClass_of_methodNamed B.named
  have hlocks := B.notSynchronized
  have inX3 : ∀ w ∈ wsX30, w ∈ wsX3_value := fun _ h => List.mem_cons_of_mem _ (List.mem_append_left _ (List.mem_append_right _ h))
  have inX1 : ∀ w ∈ wsX10, w ∈ wsX3_value := fun _ h => List.mem_cons_of_mem _ (List.mem_append_right _ h)
  have hS : va_S (fun _ => False) s.heap s.heap [] := va_S.rf
  have hl := lv_entry ([.ref x0, .int h, .int v]) (n := 3) (Nat.le_of_ble_eq_true rfl)
  rw [lg_entry_eq]
  generalize (lg_sl ([.ref x0, .int h, .int v]) ++ List.replicate (3 - (lg_sl ([.ref x0, .int h, .int v])).length) Slot.unset).toArray = ls at hl ⊢
  generalize hQe : MQ below _ _ s 0 0 _ = Q
  generalize ([.ref x0, .int h, .int v] : List Value).toArray = args at hts hQe ⊢
  have hl : lv_has ls 3 [(0, .ref x0), (1, .int h), (2, .int v)] := hl
  refine lv_iload_n hx hb dX3_value_0 rfl (lv_at hl 1 rfl) ?_
  refine va_calli (va_runS (As := [.int h]) (rest := []) ⟨hx, hb, hml, hown, hts⟩ (c_X3_isHourOrEnd l dC dI   h  ) (va_cwS 1 hts gX3_value_X3_isHourOrEnd rfl rfl rfl (by decide +kernel) ⟨Nat.le_of_ble_eq_true rfl, Nat.le_of_ble_eq_true rfl⟩) ⟨fun a U g mk q => q, fun U hU hW => ⟨rfl, trivial⟩⟩ rfl rfl hl.1 rfl (lv_room (Nat.le_of_ble_eq_true rfl)) dX3_value_1 ⟨Nat.le_of_ble_eq_true rfl, Nat.le_of_ble_eq_true rfl⟩) hS (fun q _ h => h.elim) (fun q h => h.elim) (fun r_1 u t H1 locs ht hvm hw hB hz1 hk1 hS => ?_)
  refine W.widen (k := 0) (n := 0) (Nat.le_of_ble_eq_true rfl) (Nat.le_of_ble_eq_true rfl) ?_
  have hP := hP.kept (H1 := H1) (fun k q hk => hk1 q.1 (hP k q hk).lt (fun h => h))
  clear hz1 hk1 hB ht hvm t
  generalize H1 = H at hP hS ⊢
  have hP : va_P (dC, dI) vwCl [(x0, .inr (3, [.ref rn, .ref b0, .ref rt, .ref rp, .ref rd, .ref ri, .ref rs, .ref rk, .int ld, .int ud, .int sd])), (b0, .inr (1, [.ref b1, .ref b2, .int (nI ltk), .int (nI lgv), .int lhc, .int lew, .int lsl, .int lsh, .ref b3, .ref b4, .ref b5, .ref b6])), (b1, .inl (kb1, 24, .inl pr)), (b2, .inl (kb2, 24, .inl lr)), (b3, .inl (kb3, 1525, .inl tb)), (b4, .inl (kb4, 25, .inl hi)), (b5, .inl (kb5, 24, .inl by_)), (b6, .inl (kb6, 24, .inl se))] H := hP
  have wr_1 := hw
  clear hw
  refine lv_if_ne (tgt := 10) hx hb dX3_value_4 (by decide) (fun c_4 => ?_) (fun c_4 => ?_)
  · obtain ⟨j_2, hj_2, rfl⟩ := b_1 wr_1 c_4
    refine lv_iload_n hx hb dX3_value_10 rfl (lv_at hl 2 rfl) ?_
    refine lv_iconst (v := nI 0) hx hb dX3_value_11 (by decide) ?_
    refine lv_bipush (v := nI 60) hx hb dX3_value_12 (by decide) ?_
    refine va_calli (va_runS (As := [.int v, .int (nI 0), .int (nI 60)]) (rest := []) ⟨hx, hb, hml, hown, hts⟩ (c_X3_isOutside l dC dI   v (nI 0) (nI 60)  ) (va_cwS 3 hts gX3_value_X3_isOutside rfl rfl rfl (by decide +kernel) ⟨Nat.le_of_ble_eq_true rfl, Nat.le_of_ble_eq_true rfl⟩) ⟨fun a U g mk q => q, fun U hU hW => ⟨rfl, trivial⟩⟩ rfl rfl hl.1 rfl (lv_room (Nat.le_of_ble_eq_true rfl)) dX3_value_14 ⟨Nat.le_of_ble_eq_true rfl, Nat.le_of_ble_eq_true rfl⟩) hS (fun q _ h => h.elim) (fun q h => h.elim) (fun r_3 u t H1 locs ht hvm hw hB hz1 hk1 hS => ?_)
    refine W.widen (k := 0) (n := 0) (Nat.le_of_ble_eq_true rfl) (Nat.le_of_ble_eq_true rfl) ?_
    have hP := hP.kept (H1 := H1) (fun k q hk => hk1 q.1 (hP k q hk).lt (fun h => h))
    clear hz1 hk1 hB ht hvm t
    generalize H1 = H at hP hS ⊢
    have hP : va_P (dC, dI) vwCl [(x0, .inr (3, [.ref rn, .ref b0, .ref rt, .ref rp, .ref rd, .ref ri, .ref rs, .ref rk, .int ld, .int ud, .int sd])), (b0, .inr (1, [.ref b1, .ref b2, .int (nI ltk), .int (nI lgv), .int lhc, .int lew, .int lsl, .int lsh, .ref b3, .ref b4, .ref b5, .ref b6])), (b1, .inl (kb1, 24, .inl pr)), (b2, .inl (kb2, 24, .inl lr)), (b3, .inl (kb3, 1525, .inl tb)), (b4, .inl (kb4, 25, .inl hi)), (b5, .inl (kb5, 24, .inl by_)), (b6, .inl (kb6, 24, .inl se))] H := hP
    have wr_3 := hw
    clear hw
    refine lv_if_eq (tgt := 23) hx hb dX3_value_17 (by decide) (fun c_17 => ?_) (fun c_17 => ?_)
    · obtain ⟨j_4, hj_4, rfl⟩ := rg_0 (by decide) (b_0 wr_3 c_17)
      refine lv_aload_n hx hb dX3_value_23 rfl (lv_at hl 0 rfl) ?_
      refine va_get (D := (dC, dI)) (ci := 3) (v := .ref b0) (C := RX3) (T := TX3) (N := 11) hx hb hts inX3 hown hK hP 0 rfl rfl 1 (by decide) (hts (.fieldLink RX3 19 "StoreSlopes" "asIs" "LStoreSlopes$Slopes;") (List.mem_of_getElem? (i := 3) rfl)) (fun _ h9 => h9) rfl dX3_value_24 ?_
      refine lv_iload_n hx hb dX3_value_27 rfl (lv_at hl 1 rfl) ?_
      refine lv_iload_n hx hb dX3_value_28 rfl (lv_at hl 2 rfl) ?_
      have hPc := hP.sub (ws' := [(b0, .inr (1, [.ref b1, .ref b2, .int (nI ltk), .int (nI lgv), .int lhc, .int lew, .int lsl, .int lsh, .ref b3, .ref b4, .ref b5, .ref b6])), (b1, .inl (kb1, 24, .inl pr)), (b2, .inl (kb2, 24, .inl lr)), (b3, .inl (kb3, 1525, .inl tb)), (b4, .inl (kb4, 25, .inl hi)), (b5, .inl (kb5, 24, .inl by_)), (b6, .inl (kb6, 24, .inl se))]) [1, 2, 3, 4, 5, 6, 7] rfl
      have hKc := hK.sub (tys' := [(kb1, .int), (kb2, .int), (kb3, .int), (kb4, .int), (kb5, .int), (kb6, .int)]) [0, 1, 2, 3, 4, 5] rfl
      refine va_calli (va_runV (As := [.int (nI j_2), .int (nI j_4)]) (rest := []) ⟨hx, hb, hml, hown, hts⟩ (c_X1_canLeave l dC dI b0 b1 b2 b3 b4 b5 b6 kb1 kb2 kb3 kb4 kb5 kb6 ltk lgv lhc lew lsl lsh pr lr tb hi by_ se j_2 (nI j_4) (by first | assumption | omega) (by first | assumption | omega) (by first | assumption | omega) (by first | assumption | omega) (by first | assumption | omega) (by first | assumption | omega) (by first | assumption | omega)) (cwV 2 hts gX3_value_X1_canLeave rfl rfl rfl (by decide +kernel) ⟨Nat.le_of_ble_eq_true rfl, Nat.le_of_ble_eq_true rfl⟩) ⟨fun a U g mk q => by obtain ⟨q0, qP, qK⟩ := q; exact ⟨q0, qP, va_K.moved (u := U) (U := U.calling g mk a) (Vm.Alike.refl U.vm) qK⟩, va_recv hKc hPc (ci := 1) (q0 := 0) rfl rfl, fun U hU hW => ⟨rfl, by rw [hU]; exact hPc, va_K.moved hW.alike hKc⟩⟩ rfl rfl hl.1 rfl (lv_room (Nat.le_of_ble_eq_true rfl)) dX3_value_29 ⟨Nat.le_of_ble_eq_true rfl, Nat.le_of_ble_eq_true rfl⟩) hS (fun q _ h => h.elim) (fun q h => h.elim) (fun r_5 u t H1 locs ht hvm hw hB hz1 hk1 hS => ?_)
      refine W.widen (k := 0) (n := 0) (Nat.le_of_ble_eq_true rfl) (Nat.le_of_ble_eq_true rfl) ?_
      have hP := hP.kept (H1 := H1) (fun k q hk => hk1 q.1 (hP k q hk).lt (fun h => h))
      clear hz1 hk1 hB ht hvm t
      generalize H1 = H at hP hS ⊢
      have hP : va_P (dC, dI) vwCl [(x0, .inr (3, [.ref rn, .ref b0, .ref rt, .ref rp, .ref rd, .ref ri, .ref rs, .ref rk, .int ld, .int ud, .int sd])), (b0, .inr (1, [.ref b1, .ref b2, .int (nI ltk), .int (nI lgv), .int lhc, .int lew, .int lsl, .int lsh, .ref b3, .ref b4, .ref b5, .ref b6])), (b1, .inl (kb1, 24, .inl pr)), (b2, .inl (kb2, 24, .inl lr)), (b3, .inl (kb3, 1525, .inl tb)), (b4, .inl (kb4, 25, .inl hi)), (b5, .inl (kb5, 24, .inl by_)), (b6, .inl (kb6, 24, .inl se))] H := hP
      have wr_5 := hw
      clear hw
      refine lv_if_eq (tgt := 50) hx hb dX3_value_32 (by decide) (fun c_32 => ?_) (fun c_32 => ?_)
      · refine lv_iconst (v := (-1)) hx hb dX3_value_50 (by decide) ?_
        subst hQe
        exact W.iret (v := ((-1))) hx hb hr (fun t ht hW => ⟨⟨_, (), rfl, trivial, trivial⟩, hS.F ht⟩) hS.2.2 dX3_value_51
      · refine lv_aload_n hx hb dX3_value_35 rfl (lv_at hl 0 rfl) ?_
        refine va_get (D := (dC, dI)) (ci := 3) (v := .ref b0) (C := RX3) (T := TX3) (N := 11) hx hb hts inX3 hown hK hP 0 rfl rfl 1 (by decide) (hts (.fieldLink RX3 19 "StoreSlopes" "asIs" "LStoreSlopes$Slopes;") (List.mem_of_getElem? (i := 3) rfl)) (fun _ h9 => h9) rfl dX3_value_36 ?_
        refine lv_iload_n hx hb dX3_value_39 rfl (lv_at hl 1 rfl) ?_
        refine lv_iload_n hx hb dX3_value_40 rfl (lv_at hl 2 rfl) ?_
        have hPc := hP.sub (ws' := [(b0, .inr (1, [.ref b1, .ref b2, .int (nI ltk), .int (nI lgv), .int lhc, .int lew, .int lsl, .int lsh, .ref b3, .ref b4, .ref b5, .ref b6])), (b1, .inl (kb1, 24, .inl pr)), (b2, .inl (kb2, 24, .inl lr)), (b3, .inl (kb3, 1525, .inl tb)), (b4, .inl (kb4, 25, .inl hi)), (b5, .inl (kb5, 24, .inl by_)), (b6, .inl (kb6, 24, .inl se))]) [1, 2, 3, 4, 5, 6, 7] rfl
        have hKc := hK.sub (tys' := [(kb1, .int), (kb2, .int), (kb3, .int), (kb4, .int), (kb5, .int), (kb6, .int)]) [0, 1, 2, 3, 4, 5] rfl
        refine va_calli (va_runV (As := [.int (nI j_2), .int (nI j_4)]) (rest := []) ⟨hx, hb, hml, hown, hts⟩ (c_X1_most l dC dI b0 b1 b2 b3 b4 b5 b6 kb1 kb2 kb3 kb4 kb5 kb6 ltk lgv lhc lew lsl lsh pr lr tb hi by_ se j_2 j_4 (by first | assumption | omega) (by first | assumption | omega) (by first | assumption | omega) (by first | assumption | omega) (by first | assumption | omega) (by first | assumption | omega) (by first | assumption | omega) (by first | assumption | omega)) (cwV 2 hts gX3_value_X1_most rfl rfl rfl (by decide +kernel) ⟨Nat.le_of_ble_eq_true rfl, Nat.le_of_ble_eq_true rfl⟩) ⟨fun a U g mk q => by obtain ⟨q0, qP, qK⟩ := q; exact ⟨q0, qP, va_K.moved (u := U) (U := U.calling g mk a) (Vm.Alike.refl U.vm) qK⟩, va_recv hKc hPc (ci := 1) (q0 := 0) rfl rfl, fun U hU hW => ⟨rfl, by rw [hU]; exact hPc, va_K.moved hW.alike hKc⟩⟩ rfl rfl hl.1 rfl (lv_room (Nat.le_of_ble_eq_true rfl)) dX3_value_41 ⟨Nat.le_of_ble_eq_true rfl, Nat.le_of_ble_eq_true rfl⟩) hS (fun q _ h => h.elim) (fun q h => h.elim) (fun r_6 u t H1 locs ht hvm hw hB hz1 hk1 hS => ?_)
        refine W.widen (k := 0) (n := 0) (Nat.le_of_ble_eq_true rfl) (Nat.le_of_ble_eq_true rfl) ?_
        have hP := hP.kept (H1 := H1) (fun k q hk => hk1 q.1 (hP k q hk).lt (fun h => h))
        clear hz1 hk1 hB ht hvm t
        generalize H1 = H at hP hS ⊢
        have hP : va_P (dC, dI) vwCl [(x0, .inr (3, [.ref rn, .ref b0, .ref rt, .ref rp, .ref rd, .ref ri, .ref rs, .ref rk, .int ld, .int ud, .int sd])), (b0, .inr (1, [.ref b1, .ref b2, .int (nI ltk), .int (nI lgv), .int lhc, .int lew, .int lsl, .int lsh, .ref b3, .ref b4, .ref b5, .ref b6])), (b1, .inl (kb1, 24, .inl pr)), (b2, .inl (kb2, 24, .inl lr)), (b3, .inl (kb3, 1525, .inl tb)), (b4, .inl (kb4, 25, .inl hi)), (b5, .inl (kb5, 24, .inl by_)), (b6, .inl (kb6, 24, .inl se))] H := hP
        clear hw
        refine lv_ldc (own := RX3) (v := (1000000)) hx hb hown (hts (.constant RX3 85 (1000000)) (List.mem_of_getElem? (i := 4) rfl)) dX3_value_44 ?_
        refine lv_iadd hx hb dX3_value_46 ?_
        refine tp_any (fun y_7 => ?_)
        refine lv_goto (tgt := 51) hx hb dX3_value_47 (by decide) ?_
        subst hQe
        exact W.iret (v := y_7) hx hb hr (fun t ht hW => ⟨⟨_, (), rfl, trivial, trivial⟩, hS.F ht⟩) hS.2.2 dX3_value_51
    · refine lv_ldc (own := RX3) (v := (-1000000002)) hx hb hown (hts (.constant RX3 100 (-1000000002)) (List.mem_of_getElem? (i := 2) rfl)) dX3_value_20 ?_
      subst hQe
      exact W.iret (v := ((-1000000002))) hx hb hr (fun t ht hW => ⟨⟨_, (), rfl, trivial, trivial⟩, hS.F ht⟩) hS.2.2 dX3_value_22
  · have nc_4 := b_0 wr_1 c_4
    refine lv_ldc (own := RX3) (v := (-1000000001)) hx hb hown (hts (.constant RX3 105 (-1000000001)) (List.mem_of_getElem? (i := 1) rfl)) dX3_value_7 ?_
    subst hQe
    exact W.iret (v := ((-1000000001))) hx hb hr (fun t ht hW => ⟨⟨_, (), rfl, trivial, trivial⟩, hS.F ht⟩) hS.2.2 dX3_value_9
set_option maxHeartbeats 4000000 in
set_option maxRecDepth 100000 in
theorem c_X3_margin (l : Launch) (dC : Nat → ClassId) (dI : Nat → Nat → Nat) (x0 b0 b1 b2 b3 b4 b5 b6 rn rt rp rd ri rs rk : Nat) (kb1 kb2 kb3 kb4 kb5 kb6 : ClassId) (ld : Int32) (ud : Int32) (sd : Int32) (ltk : Nat) (lgv : Nat) (lhc : Int32) (lew : Int32) (lsl : Int32) (lsh : Int32) (pr : Nat → Int32) (lr : Nat → Int32) (tb : Nat → Int32) (hi : Nat → Int32) (by_ : Nat → Int32) (se : Nat → Int32) (h : Int32) (v : Int32) (i0 : ltk ≤ 9) (i1 : lgv ≤ 9) (i2 : bdA 60 24 lr) (i3 : bdA 60 25 hi) (i4 : bdA 60 24 by_) (i5 : bdA 60 24 se) : Met l yX3_margin wsX3_margin ({ frames := 2, cells := 0, slots := 0, locals := 44 }) (va_Pc [.ref x0, .int h, .int v] (fun U => va_P (dC, dI) vwCl [(x0, .inr (3, [.ref rn, .ref b0, .ref rt, .ref rp, .ref rd, .ref ri, .ref rs, .ref rk, .int ld, .int ud, .int sd])), (b0, .inr (1, [.ref b1, .ref b2, .int (nI ltk), .int (nI lgv), .int lhc, .int lew, .int lsl, .int lsh, .ref b3, .ref b4, .ref b5, .ref b6])), (b1, .inl (kb1, 24, .inl pr)), (b2, .inl (kb2, 24, .inl lr)), (b3, .inl (kb3, 1525, .inl tb)), (b4, .inl (kb4, 25, .inl hi)), (b5, .inl (kb5, 24, .inl by_)), (b6, .inl (kb6, 24, .inl se))] U.heap ∧ va_K (dC, dI) vwCl [(kb1, .int), (kb2, .int), (kb3, .int), (kb4, .int), (kb5, .int), (kb6, .int)] U)) (va_Qi (fun r (_ : Unit) => True) (fun _ _ => True) (fun _ => False)) 0 0 (fun _ => False) := by
  refine Met.ofW (cc := cX3_margin) (maxL := 3) (ret := (some .int)) (by decide) rfl ?_
  intro p e s m args below meth c s₁ B hml hv
  obtain ⟨rfl, hP, hK⟩ := hv
  have hx := B.exec
  have hb := B.bytes
  have hr := B.returns
  have hts := atoms_spec (ws := wsX3_margin) B.pre
  have hown : s.vm.findClass RX3 = some m.cls := findClass_of_methodNamed B.named
  have hlocks := B.notSynchronized
  have inX3 : ∀ w ∈ wsX30, w ∈ wsX3_margin := fun _ h => List.mem_cons_of_mem _ (List.mem_append_left _ (List.mem_append_right _ h))
  have inX1 : ∀ w ∈ wsX10, w ∈ wsX3_margin := fun _ h => List.mem_cons_of_mem _ (List.mem_append_right _ h)
  have hS : va_S (fun _ => False) s.heap s.heap [] := va_S.rf
  have hl := lv_entry ([.ref x0, .int h, .int v]) (n := 3) (Nat.le_of_ble_eq_true rfl)
  rw [lg_entry_eq]
  generalize (lg_sl ([.ref x0, .int h, .int v]) ++ List.replicate (3 - (lg_sl ([.ref x0, .int h, .int v])).length) Slot.unset).toArray = ls at hl ⊢
  generalize hQe : MQ below _ _ s 0 0 _ = Q
  generalize ([.ref x0, .int h, .int v] : List Value).toArray = args at hts hQe ⊢
  have hl : lv_has ls 3 [(0, .ref x0), (1, .int h), (2, .int v)] := hl
  refine lv_iload_n hx hb dX3_margin_0 rfl (lv_at hl 1 rfl) ?_
  refine va_calli (va_runS (As := [.int h]) (rest := []) ⟨hx, hb, hml, hown, hts⟩ (c_X3_isHourOrEnd l dC dI   h  ) (va_cwS 1 hts gX3_margin_X3_isHourOrEnd rfl rfl rfl (by decide +kernel) ⟨Nat.le_of_ble_eq_true rfl, Nat.le_of_ble_eq_true rfl⟩) ⟨fun a U g mk q => q, fun U hU hW => ⟨rfl, trivial⟩⟩ rfl rfl hl.1 rfl (lv_room (Nat.le_of_ble_eq_true rfl)) dX3_margin_1 ⟨Nat.le_of_ble_eq_true rfl, Nat.le_of_ble_eq_true rfl⟩) hS (fun q _ h => h.elim) (fun q h => h.elim) (fun r_1 u t H1 locs ht hvm hw hB hz1 hk1 hS => ?_)
  refine W.widen (k := 0) (n := 0) (Nat.le_of_ble_eq_true rfl) (Nat.le_of_ble_eq_true rfl) ?_
  have hP := hP.kept (H1 := H1) (fun k q hk => hk1 q.1 (hP k q hk).lt (fun h => h))
  clear hz1 hk1 hB ht hvm t
  generalize H1 = H at hP hS ⊢
  have hP : va_P (dC, dI) vwCl [(x0, .inr (3, [.ref rn, .ref b0, .ref rt, .ref rp, .ref rd, .ref ri, .ref rs, .ref rk, .int ld, .int ud, .int sd])), (b0, .inr (1, [.ref b1, .ref b2, .int (nI ltk), .int (nI lgv), .int lhc, .int lew, .int lsl, .int lsh, .ref b3, .ref b4, .ref b5, .ref b6])), (b1, .inl (kb1, 24, .inl pr)), (b2, .inl (kb2, 24, .inl lr)), (b3, .inl (kb3, 1525, .inl tb)), (b4, .inl (kb4, 25, .inl hi)), (b5, .inl (kb5, 24, .inl by_)), (b6, .inl (kb6, 24, .inl se))] H := hP
  have wr_1 := hw
  clear hw
  refine lv_if_ne (tgt := 10) hx hb dX3_margin_4 (by decide) (fun c_4 => ?_) (fun c_4 => ?_)
  · obtain ⟨j_2, hj_2, rfl⟩ := b_1 wr_1 c_4
    refine lv_iload_n hx hb dX3_margin_10 rfl (lv_at hl 2 rfl) ?_
    refine lv_iconst (v := nI 0) hx hb dX3_margin_11 (by decide) ?_
    refine lv_bipush (v := nI 59) hx hb dX3_margin_12 (by decide) ?_
    refine va_calli (va_runS (As := [.int v, .int (nI 0), .int (nI 59)]) (rest := []) ⟨hx, hb, hml, hown, hts⟩ (c_X3_isOutside l dC dI   v (nI 0) (nI 59)  ) (va_cwS 3 hts gX3_margin_X3_isOutside rfl rfl rfl (by decide +kernel) ⟨Nat.le_of_ble_eq_true rfl, Nat.le_of_ble_eq_true rfl⟩) ⟨fun a U g mk q => q, fun U hU hW => ⟨rfl, trivial⟩⟩ rfl rfl hl.1 rfl (lv_room (Nat.le_of_ble_eq_true rfl)) dX3_margin_14 ⟨Nat.le_of_ble_eq_true rfl, Nat.le_of_ble_eq_true rfl⟩) hS (fun q _ h => h.elim) (fun q h => h.elim) (fun r_3 u t H1 locs ht hvm hw hB hz1 hk1 hS => ?_)
    refine W.widen (k := 0) (n := 0) (Nat.le_of_ble_eq_true rfl) (Nat.le_of_ble_eq_true rfl) ?_
    have hP := hP.kept (H1 := H1) (fun k q hk => hk1 q.1 (hP k q hk).lt (fun h => h))
    clear hz1 hk1 hB ht hvm t
    generalize H1 = H at hP hS ⊢
    have hP : va_P (dC, dI) vwCl [(x0, .inr (3, [.ref rn, .ref b0, .ref rt, .ref rp, .ref rd, .ref ri, .ref rs, .ref rk, .int ld, .int ud, .int sd])), (b0, .inr (1, [.ref b1, .ref b2, .int (nI ltk), .int (nI lgv), .int lhc, .int lew, .int lsl, .int lsh, .ref b3, .ref b4, .ref b5, .ref b6])), (b1, .inl (kb1, 24, .inl pr)), (b2, .inl (kb2, 24, .inl lr)), (b3, .inl (kb3, 1525, .inl tb)), (b4, .inl (kb4, 25, .inl hi)), (b5, .inl (kb5, 24, .inl by_)), (b6, .inl (kb6, 24, .inl se))] H := hP
    have wr_3 := hw
    clear hw
    refine lv_if_eq (tgt := 23) hx hb dX3_margin_17 (by decide) (fun c_17 => ?_) (fun c_17 => ?_)
    · obtain ⟨j_4, hj_4, rfl⟩ := rg_0 (by decide) (b_0 wr_3 c_17)
      refine lv_aload_n hx hb dX3_margin_23 rfl (lv_at hl 0 rfl) ?_
      refine va_get (D := (dC, dI)) (ci := 3) (v := .ref b0) (C := RX3) (T := TX3) (N := 11) hx hb hts inX3 hown hK hP 0 rfl rfl 1 (by decide) (hts (.fieldLink RX3 19 "StoreSlopes" "asIs" "LStoreSlopes$Slopes;") (List.mem_of_getElem? (i := 3) rfl)) (fun _ h9 => h9) rfl dX3_margin_24 ?_
      refine lv_iload_n hx hb dX3_margin_27 rfl (lv_at hl 1 rfl) ?_
      refine lv_iload_n hx hb dX3_margin_28 rfl (lv_at hl 2 rfl) ?_
      refine lv_iconst (v := nI 1) hx hb dX3_margin_29 (by decide) ?_
      refine lv_iadd hx hb dX3_margin_30 ?_
      refine tp_as (nI_add j_4 1) ?_
      have hPc := hP.sub (ws' := [(b0, .inr (1, [.ref b1, .ref b2, .int (nI ltk), .int (nI lgv), .int lhc, .int lew, .int lsl, .int lsh, .ref b3, .ref b4, .ref b5, .ref b6])), (b1, .inl (kb1, 24, .inl pr)), (b2, .inl (kb2, 24, .inl lr)), (b3, .inl (kb3, 1525, .inl tb)), (b4, .inl (kb4, 25, .inl hi)), (b5, .inl (kb5, 24, .inl by_)), (b6, .inl (kb6, 24, .inl se))]) [1, 2, 3, 4, 5, 6, 7] rfl
      have hKc := hK.sub (tys' := [(kb1, .int), (kb2, .int), (kb3, .int), (kb4, .int), (kb5, .int), (kb6, .int)]) [0, 1, 2, 3, 4, 5] rfl
      refine va_calli (va_runV (As := [.int (nI j_2), .int (nI (j_4 + 1))]) (rest := []) ⟨hx, hb, hml, hown, hts⟩ (c_X1_canLeave l dC dI b0 b1 b2 b3 b4 b5 b6 kb1 kb2 kb3 kb4 kb5 kb6 ltk lgv lhc lew lsl lsh pr lr tb hi by_ se j_2 (nI (j_4 + 1)) (by first | assumption | omega) (by first | assumption | omega) (by first | assumption | omega) (by first | assumption | omega) (by first | assumption | omega) (by first | assumption | omega) (by first | assumption | omega)) (cwV 2 hts gX3_margin_X1_canLeave rfl rfl rfl (by decide +kernel) ⟨Nat.le_of_ble_eq_true rfl, Nat.le_of_ble_eq_true rfl⟩) ⟨fun a U g mk q => by obtain ⟨q0, qP, qK⟩ := q; exact ⟨q0, qP, va_K.moved (u := U) (U := U.calling g mk a) (Vm.Alike.refl U.vm) qK⟩, va_recv hKc hPc (ci := 1) (q0 := 0) rfl rfl, fun U hU hW => ⟨rfl, by rw [hU]; exact hPc, va_K.moved hW.alike hKc⟩⟩ rfl rfl hl.1 rfl (lv_room (Nat.le_of_ble_eq_true rfl)) dX3_margin_31 ⟨Nat.le_of_ble_eq_true rfl, Nat.le_of_ble_eq_true rfl⟩) hS (fun q _ h => h.elim) (fun q h => h.elim) (fun r_5 u t H1 locs ht hvm hw hB hz1 hk1 hS => ?_)
      refine W.widen (k := 0) (n := 0) (Nat.le_of_ble_eq_true rfl) (Nat.le_of_ble_eq_true rfl) ?_
      have hP := hP.kept (H1 := H1) (fun k q hk => hk1 q.1 (hP k q hk).lt (fun h => h))
      clear hz1 hk1 hB ht hvm t
      generalize H1 = H at hP hS ⊢
      have hP : va_P (dC, dI) vwCl [(x0, .inr (3, [.ref rn, .ref b0, .ref rt, .ref rp, .ref rd, .ref ri, .ref rs, .ref rk, .int ld, .int ud, .int sd])), (b0, .inr (1, [.ref b1, .ref b2, .int (nI ltk), .int (nI lgv), .int lhc, .int lew, .int lsl, .int lsh, .ref b3, .ref b4, .ref b5, .ref b6])), (b1, .inl (kb1, 24, .inl pr)), (b2, .inl (kb2, 24, .inl lr)), (b3, .inl (kb3, 1525, .inl tb)), (b4, .inl (kb4, 25, .inl hi)), (b5, .inl (kb5, 24, .inl by_)), (b6, .inl (kb6, 24, .inl se))] H := hP
      have wr_5 := hw
      clear hw
      refine lv_if_eq (tgt := 52) hx hb dX3_margin_34 (by decide) (fun c_34 => ?_) (fun c_34 => ?_)
      · refine lv_iconst (v := (-1)) hx hb dX3_margin_52 (by decide) ?_
        subst hQe
        exact W.iret (v := ((-1))) hx hb hr (fun t ht hW => ⟨⟨_, (), rfl, trivial, trivial⟩, hS.F ht⟩) hS.2.2 dX3_margin_53
      · refine lv_aload_n hx hb dX3_margin_37 rfl (lv_at hl 0 rfl) ?_
        refine va_get (D := (dC, dI)) (ci := 3) (v := .ref b0) (C := RX3) (T := TX3) (N := 11) hx hb hts inX3 hown hK hP 0 rfl rfl 1 (by decide) (hts (.fieldLink RX3 19 "StoreSlopes" "asIs" "LStoreSlopes$Slopes;") (List.mem_of_getElem? (i := 3) rfl)) (fun _ h9 => h9) rfl dX3_margin_38 ?_
        refine lv_iload_n hx hb dX3_margin_41 rfl (lv_at hl 1 rfl) ?_
        refine lv_iload_n hx hb dX3_margin_42 rfl (lv_at hl 2 rfl) ?_
        have hPc := hP.sub (ws' := [(b0, .inr (1, [.ref b1, .ref b2, .int (nI ltk), .int (nI lgv), .int lhc, .int lew, .int lsl, .int lsh, .ref b3, .ref b4, .ref b5, .ref b6])), (b1, .inl (kb1, 24, .inl pr)), (b2, .inl (kb2, 24, .inl lr)), (b3, .inl (kb3, 1525, .inl tb)), (b4, .inl (kb4, 25, .inl hi)), (b5, .inl (kb5, 24, .inl by_)), (b6, .inl (kb6, 24, .inl se))]) [1, 2, 3, 4, 5, 6, 7] rfl
        have hKc := hK.sub (tys' := [(kb1, .int), (kb2, .int), (kb3, .int), (kb4, .int), (kb5, .int), (kb6, .int)]) [0, 1, 2, 3, 4, 5] rfl
        refine va_calli (va_runV (As := [.int (nI j_2), .int (nI j_4)]) (rest := []) ⟨hx, hb, hml, hown, hts⟩ (c_X1_slope l dC dI b0 b1 b2 b3 b4 b5 b6 kb1 kb2 kb3 kb4 kb5 kb6 ltk lgv lhc lew lsl lsh pr lr tb hi by_ se j_2 j_4 (by first | assumption | omega) (by first | assumption | omega) (by first | assumption | omega) (by first | assumption | omega) (by first | assumption | omega) (by first | assumption | omega) (by first | assumption | omega) (by first | assumption | omega)) (cwV 2 hts gX3_margin_X1_slope rfl rfl rfl (by decide +kernel) ⟨Nat.le_of_ble_eq_true rfl, Nat.le_of_ble_eq_true rfl⟩) ⟨fun a U g mk q => by obtain ⟨q0, qP, qK⟩ := q; exact ⟨q0, qP, va_K.moved (u := U) (U := U.calling g mk a) (Vm.Alike.refl U.vm) qK⟩, va_recv hKc hPc (ci := 1) (q0 := 0) rfl rfl, fun U hU hW => ⟨rfl, by rw [hU]; exact hPc, va_K.moved hW.alike hKc⟩⟩ rfl rfl hl.1 rfl (lv_room (Nat.le_of_ble_eq_true rfl)) dX3_margin_43 ⟨Nat.le_of_ble_eq_true rfl, Nat.le_of_ble_eq_true rfl⟩) hS (fun q _ h => h.elim) (fun q h => h.elim) (fun r_6 u t H1 locs ht hvm hw hB hz1 hk1 hS => ?_)
        refine W.widen (k := 0) (n := 0) (Nat.le_of_ble_eq_true rfl) (Nat.le_of_ble_eq_true rfl) ?_
        have hP := hP.kept (H1 := H1) (fun k q hk => hk1 q.1 (hP k q hk).lt (fun h => h))
        clear hz1 hk1 hB ht hvm t
        generalize H1 = H at hP hS ⊢
        have hP : va_P (dC, dI) vwCl [(x0, .inr (3, [.ref rn, .ref b0, .ref rt, .ref rp, .ref rd, .ref ri, .ref rs, .ref rk, .int ld, .int ud, .int sd])), (b0, .inr (1, [.ref b1, .ref b2, .int (nI ltk), .int (nI lgv), .int lhc, .int lew, .int lsl, .int lsh, .ref b3, .ref b4, .ref b5, .ref b6])), (b1, .inl (kb1, 24, .inl pr)), (b2, .inl (kb2, 24, .inl lr)), (b3, .inl (kb3, 1525, .inl tb)), (b4, .inl (kb4, 25, .inl hi)), (b5, .inl (kb5, 24, .inl by_)), (b6, .inl (kb6, 24, .inl se))] H := hP
        clear hw
        refine lv_ldc (own := RX3) (v := (1000000)) hx hb hown (hts (.constant RX3 85 (1000000)) (List.mem_of_getElem? (i := 4) rfl)) dX3_margin_46 ?_
        refine lv_iadd hx hb dX3_margin_48 ?_
        refine tp_any (fun y_7 => ?_)
        refine lv_goto (tgt := 53) hx hb dX3_margin_49 (by decide) ?_
        subst hQe
        exact W.iret (v := y_7) hx hb hr (fun t ht hW => ⟨⟨_, (), rfl, trivial, trivial⟩, hS.F ht⟩) hS.2.2 dX3_margin_53
    · refine lv_ldc (own := RX3) (v := (-1000000002)) hx hb hown (hts (.constant RX3 100 (-1000000002)) (List.mem_of_getElem? (i := 2) rfl)) dX3_margin_20 ?_
      subst hQe
      exact W.iret (v := ((-1000000002))) hx hb hr (fun t ht hW => ⟨⟨_, (), rfl, trivial, trivial⟩, hS.F ht⟩) hS.2.2 dX3_margin_22
  · have nc_4 := b_0 wr_1 c_4
    refine lv_ldc (own := RX3) (v := (-1000000001)) hx hb hown (hts (.constant RX3 105 (-1000000001)) (List.mem_of_getElem? (i := 1) rfl)) dX3_margin_7 ?_
    subst hQe
    exact W.iret (v := ((-1000000001))) hx hb hr (fun t ht hW => ⟨⟨_, (), rfl, trivial, trivial⟩, hS.F ht⟩) hS.2.2 dX3_margin_9
