set_option maxHeartbeats 4000000 in
set_option maxRecDepth 100000 in
theorem c_X4_ofPlan (l : Launch) (dC : Nat → ClassId) (dI : Nat → Nat → Nat) (m0 m1 m7 m8 m2 m3 m4 m5 m6 : Nat) (km1 km7 km8 : ClassId) (sz : Nat) (bk : Nat) (sd : Int32) (cl : Int32) (pc : Int32) (op : Int32) (nw : Nat → Int32) (vl : Nat → Int32) (pl : Nat → Int32) (w : Int32) (i0 : bk ≤ 40) (i1 : okN nw) (i2 : bdA 60 24 pl) : Met l yX4_ofPlan wsX4_ofPlan ({ frames := 8, cells := 0, slots := 0, locals := 186 }) (va_Pc [.ref m0, .int w] (fun U => U.heap.size = sz ∧ va_P (dC, dI) vwCl [(m0, .inr (4, [.ref m1, .ref m2, .int (nI bk), .ref m3, .ref m4, .ref m5, .ref m6, .int sd, .ref m7, .ref m8, .int cl, .int pc, .int op])), (m1, .inl (km1, 93, .inl nw)), (m7, .inl (km7, 1525, .inl vl)), (m8, .inl (km8, 24, .inl pl))] U.heap ∧ va_K (dC, dI) vwCl [(km1, .int), (km7, .int), (km8, .int)] U ∧ va_D (fun _ => True) [(m0, .inr (4, [.ref m1, .ref m2, .int (nI bk), .ref m3, .ref m4, .ref m5, .ref m6, .int sd, .ref m7, .ref m8, .int cl, .int pc, .int op])), (m1, .inl (km1, 93, .inl nw)), (m7, .inl (km7, 1525, .inl vl)), (m8, .inl (km8, 24, .inl pl))])) (va_Qi (fun (r u : Int32) => u = r) (fun r t => ∃ (vl' : Nat → Int32) (pl' : Nat → Int32), bdA 60 24 pl' ∧ va_P (dC, dI) vwCl [(m0, .inr (4, [.ref m1, .ref m2, .int (nI bk), .ref m3, .ref m4, .ref m5, .ref m6, .int sd, .ref m7, .ref m8, .int cl, .int pc, .int op])), (m1, .inl (km1, 93, .inl nw)), (m7, .inl (km7, 1525, .inl vl')), (m8, .inl (km8, 24, .inl pl'))] t.heap ∧ va_K (dC, dI) vwCl [(km1, .int), (km7, .int), (km8, .int)] t ∧ va_D (va_A [(m0, .inr (4, [.ref m1, .ref m2, .int (nI bk), .ref m3, .ref m4, .ref m5, .ref m6, .int sd, .ref m7, .ref m8, .int cl, .int pc, .int op])), (m1, .inl (km1, 93, .inl nw)), (m7, .inl (km7, 1525, .inl vl)), (m8, .inl (km8, 24, .inl pl))] sz) [(m0, .inr (4, [.ref m1, .ref m2, .int (nI bk), .ref m3, .ref m4, .ref m5, .ref m6, .int sd, .ref m7, .ref m8, .int cl, .int pc, .int op])), (m1, .inl (km1, 93, .inl nw)), (m7, .inl (km7, 1525, .inl vl')), (m8, .inl (km8, 24, .inl pl'))]) (va_A [(m0, .inr (4, [.ref m1, .ref m2, .int (nI bk), .ref m3, .ref m4, .ref m5, .ref m6, .int sd, .ref m7, .ref m8, .int cl, .int pc, .int op])), (m1, .inl (km1, 93, .inl nw)), (m7, .inl (km7, 1525, .inl vl)), (m8, .inl (km8, 24, .inl pl))] sz)) 0 0 (va_A [(m0, .inr (4, [.ref m1, .ref m2, .int (nI bk), .ref m3, .ref m4, .ref m5, .ref m6, .int sd, .ref m7, .ref m8, .int cl, .int pc, .int op])), (m1, .inl (km1, 93, .inl nw)), (m7, .inl (km7, 1525, .inl vl)), (m8, .inl (km8, 24, .inl pl))] sz) := by
  refine Met.ofW (cc := cX4_ofPlan) (maxL := 2) (ret := (some .int)) (by decide) rfl ?_
  intro p e s m args below meth c s₁ B hml hv
  obtain ⟨rfl, hsz, hP, hK, hD0⟩ := hv
  have hx := B.exec
  have hb := B.bytes
  have hr := B.returns
  have hts := atoms_spec (ws := wsX4_ofPlan) B.pre
  have hown : s.vm.findClass RX4 = some m.cls := findClass_of_methodNamed B.named
  have hlocks := B.notSynchronized
  have inX4 : ∀ w ∈ wsX40, w ∈ wsX4_ofPlan := fun _ h => List.mem_cons_of_mem _ (List.mem_append_right _ h)
  subst hsz
  have hD := hD0.self (sz := s.heap.size)
  generalize hAe : va_A [(m0, .inr (4, [.ref m1, .ref m2, .int (nI bk), .ref m3, .ref m4, .ref m5, .ref m6, .int sd, .ref m7, .ref m8, .int cl, .int pc, .int op])), (m1, .inl (km1, 93, .inl nw)), (m7, .inl (km7, 1525, .inl vl)), (m8, .inl (km8, 24, .inl pl))] s.heap.size = A at hD ⊢
  have hA : ∀ q : Nat, s.heap.size ≤ q → A q := fun q h => by rw [← hAe]; exact Or.inr h
  have hS : va_S A s.heap s.heap [] := va_S.rf
  have hl := lv_entry ([.ref m0, .int w]) (n := 2) (Nat.le_of_ble_eq_true rfl)
  rw [lg_entry_eq]
  generalize (lg_sl ([.ref m0, .int w]) ++ List.replicate (2 - (lg_sl ([.ref m0, .int w])).length) Slot.unset).toArray = ls at hl ⊢
  generalize hQe : MQ below _ _ s 0 0 _ = Q
  generalize ([.ref m0, .int w] : List Value).toArray = args at hts hQe ⊢
  have hl : lv_has ls 2 [(0, .ref m0), (1, .int w)] := hl
  refine lv_aload_n hx hb dX4_ofPlan_0 rfl (lv_at hl 0 rfl) ?_
  have hPc := hP.sub (ws' := [(m0, .inr (4, [.ref m1, .ref m2, .int (nI bk), .ref m3, .ref m4, .ref m5, .ref m6, .int sd, .ref m7, .ref m8, .int cl, .int pc, .int op])), (m1, .inl (km1, 93, .inl nw)), (m7, .inl (km7, 1525, .inl vl)), (m8, .inl (km8, 24, .inl pl))]) [0, 1, 2, 3] rfl
  have hKc := hK.sub (tys' := [(km1, .int), (km7, .int), (km8, .int)]) [0, 1, 2] rfl
  have hDc := hD.sub (ws' := [(m0, .inr (4, [.ref m1, .ref m2, .int (nI bk), .ref m3, .ref m4, .ref m5, .ref m6, .int sd, .ref m7, .ref m8, .int cl, .int pc, .int op])), (m1, .inl (km1, 93, .inl nw)), (m7, .inl (km7, 1525, .inl vl)), (m8, .inl (km8, 24, .inl pl))]) [0, 1, 2, 3] (by decide) rfl
  have hFc := va_free (wc := [(m0, .inr (4, [.ref m1, .ref m2, .int (nI bk), .ref m3, .ref m4, .ref m5, .ref m6, .int sd, .ref m7, .ref m8, .int cl, .int pc, .int op])), (m1, .inl (km1, 93, .inl nw)), (m7, .inl (km7, 1525, .inl vl)), (m8, .inl (km8, 24, .inl pl))]) hD hS hA [0, 1, 2, 3] rfl
  refine va_calli (va_runV (As := []) (rest := []) ⟨hx, hb, hml, hown, hts⟩ (c_X4_isPlanned l dC dI m0 m1 m7 m8 m2 m3 m4 m5 m6 km1 km7 km8 s.heap.size bk sd cl pc op nw vl pl  (by first | assumption | omega) (by first | assumption | omega) (by first | assumption | omega) ) (cwV 0 hts gX4_ofPlan_X4_isPlanned rfl rfl rfl (by decide +kernel) ⟨Nat.le_of_ble_eq_true rfl, Nat.le_of_ble_eq_true rfl⟩) ⟨fun a U g mk q => by obtain ⟨q0, q1, qP, qK, qD⟩ := q; exact ⟨q0, q1, qP, va_K.moved (u := U) (U := U.calling g mk a) (Vm.Alike.refl U.vm) qK, qD⟩, va_recv hKc hPc (ci := 4) (q0 := 0) rfl rfl, fun U hU hW => ⟨rfl, by rw [hU], by rw [hU]; exact hPc, va_K.moved hW.alike hKc, hDc.weaken (fun _ _ _ _ => trivial)⟩⟩ rfl rfl hl.1 rfl (lv_room (Nat.le_of_ble_eq_true rfl)) dX4_ofPlan_1 ⟨Nat.le_of_ble_eq_true rfl, Nat.le_of_ble_eq_true rfl⟩) hS (fun q _ h => hFc q h) hFc (fun r_1 u9 t9 H1 locs ht hvm hw hB hz1 hk1 hS => ?_)
  refine W.widen (k := 0) (n := 0) (Nat.le_of_ble_eq_true rfl) (Nat.le_of_ble_eq_true rfl) ?_
  obtain ⟨vl_2, pl_3, h_4, hP1, hK1, hD1⟩ := hB
  rw [ht] at hP1
  have hw := hw.symm
  subst hw
  obtain ⟨hP, hD⟩ := va_join (wr := []) (w1 := [(m0, .inr (4, [.ref m1, .ref m2, .int (nI bk), .ref m3, .ref m4, .ref m5, .ref m6, .int sd, .ref m7, .ref m8, .int cl, .int pc, .int op])), (m1, .inl (km1, 93, .inl nw)), (m7, .inl (km7, 1525, .inl vl_2)), (m8, .inl (km8, 24, .inl pl_3))]) hP hD [0, 1, 2, 3] [] rfl rfl (by decide) (by decide) hk1 hFc hP1 hD1
  clear hPc hDc hKc hFc hz1 hk1 ht hvm hP1 hK1 hD1 t9
  generalize H1 = H at hP hS ⊢
  have hP := hP.sub (ws' := [(m0, .inr (4, [.ref m1, .ref m2, .int (nI bk), .ref m3, .ref m4, .ref m5, .ref m6, .int sd, .ref m7, .ref m8, .int cl, .int pc, .int op])), (m1, .inl (km1, 93, .inl nw)), (m7, .inl (km7, 1525, .inl vl_2)), (m8, .inl (km8, 24, .inl pl_3))]) [0, 1, 2, 3] rfl
  have hD := hD.sub (ws' := [(m0, .inr (4, [.ref m1, .ref m2, .int (nI bk), .ref m3, .ref m4, .ref m5, .ref m6, .int sd, .ref m7, .ref m8, .int cl, .int pc, .int op])), (m1, .inl (km1, 93, .inl nw)), (m7, .inl (km7, 1525, .inl vl_2)), (m8, .inl (km8, 24, .inl pl_3))]) [0, 1, 2, 3] (by decide) rfl
  refine lv_if_ne (tgt := 9) hx hb dX4_ofPlan_4 (by decide) (fun c_4 => ?_) (fun c_4 => ?_)
  · refine lv_iload_n hx hb dX4_ofPlan_9 rfl (lv_at hl 1 rfl) ?_
    refine lv_bipush (v := nI 12) hx hb dX4_ofPlan_10 (by decide) ?_
    refine lv_icmp_ge (tgt := 31) hx hb dX4_ofPlan_12 (by decide) (fun c_12 => ?_) (fun c_12 => ?_)
    · refine lv_aload_n hx hb dX4_ofPlan_31 rfl (lv_at hl 0 rfl) ?_
      refine va_get (D := (dC, dI)) (ci := 4) (v := .ref m1) (C := RX4) (T := TX4) (N := 13) hx hb hts inX4 hown hK hP 0 rfl rfl 0 (by decide) (hts (.fieldLink RX4 7 "StoreSlopesModel" "now" "[I") (List.mem_of_getElem? (i := 1) rfl)) (fun _ h9 => h9) rfl dX4_ofPlan_32 ?_
      refine lv_iconst (v := nI 0) hx hb dX4_ofPlan_35 (by decide) ?_
      obtain ⟨j_6, hj_6, ej_6⟩ := (show okN nw by assumption).1
      refine va_iald hx hb hK hP 1 0 rfl rfl (vp_in_nI (show 0 < 93 by omega) (by omega)) dX4_ofPlan_36 ?_
      refine tp_as (cl_as (by omega) ej_6) ?_
      refine lv_bipush (v := nI 24) hx hb dX4_ofPlan_37 (by decide) ?_
      refine lv_icmp_ne (tgt := 51) hx hb dX4_ofPlan_39 (by decide) (fun c_39 => ?_) (fun c_39 => ?_)
      · have c_39 := (not_congr (nI_eq (by omega : j_6 < 2 ^ 31) (by omega : 24 < 2 ^ 31))).mp c_39
        refine lv_aload_n hx hb dX4_ofPlan_51 rfl (lv_at hl 0 rfl) ?_
        refine va_get (D := (dC, dI)) (ci := 4) (v := .ref m8) (C := RX4) (T := TX4) (N := 13) hx hb hts inX4 hown hK hP 0 rfl rfl 9 (by decide) (hts (.fieldLink RX4 32 "StoreSlopesModel" "plan" "[I") (List.mem_of_getElem? (i := 2) rfl)) (fun _ h9 => h9) rfl dX4_ofPlan_52 ?_
        refine lv_bipush (v := nI 23) hx hb dX4_ofPlan_55 (by decide) ?_
        refine va_iald hx hb hK hP 3 2 rfl rfl (vp_in_nI (show 23 < 24 by omega) (by omega)) dX4_ofPlan_57 ?_
        obtain ⟨j_7, hj_7, ej_7⟩ := bdA_get (n := 60) (N := 24) (f := pl_3) (by assumption) (show 23 < 24 by omega) (by omega)
        refine tp_as ej_7 ?_
        subst hQe
        have hP9 := hP.sub (ws' := [(m0, .inr (4, [.ref m1, .ref m2, .int (nI bk), .ref m3, .ref m4, .ref m5, .ref m6, .int sd, .ref m7, .ref m8, .int cl, .int pc, .int op])), (m1, .inl (km1, 93, .inl nw)), (m7, .inl (km7, 1525, .inl vl_2)), (m8, .inl (km8, 24, .inl pl_3))]) [0, 1, 2, 3] rfl
        have hD9 := hD.sub (ws' := [(m0, .inr (4, [.ref m1, .ref m2, .int (nI bk), .ref m3, .ref m4, .ref m5, .ref m6, .int sd, .ref m7, .ref m8, .int cl, .int pc, .int op])), (m1, .inl (km1, 93, .inl nw)), (m7, .inl (km7, 1525, .inl vl_2)), (m8, .inl (km8, 24, .inl pl_3))]) [0, 1, 2, 3] (by decide) rfl
        have hK9 := hK.sub (tys' := [(km1, .int), (km7, .int), (km8, .int)]) [0, 1, 2] rfl
        subst hAe
        exact W.iret (v := (nI j_7)) hx hb hr (fun t ht hW => ⟨⟨_, _, rfl, rfl, vl_2, pl_3, (by first | assumption | omega), by rw [ht]; exact hP9, va_K.moved hW.alike hK9, hD9⟩, hS.F ht⟩) hS.2.2 dX4_ofPlan_58
      · have c_39 := (nI_eq (by omega : j_6 < 2 ^ 31) (by omega : 24 < 2 ^ 31)).mp c_39
        refine lv_aload_n hx hb dX4_ofPlan_42 rfl (lv_at hl 0 rfl) ?_
        refine va_get (D := (dC, dI)) (ci := 4) (v := .ref m1) (C := RX4) (T := TX4) (N := 13) hx hb hts inX4 hown hK hP 0 rfl rfl 0 (by decide) (hts (.fieldLink RX4 7 "StoreSlopesModel" "now" "[I") (List.mem_of_getElem? (i := 1) rfl)) (fun _ h9 => h9) rfl dX4_ofPlan_43 ?_
        refine lv_iconst (v := nI 1) hx hb dX4_ofPlan_46 (by decide) ?_
        obtain ⟨j_8, hj_8, ej_8⟩ := (show okN nw by assumption).2.1
        refine va_iald hx hb hK hP 1 0 rfl rfl (vp_in_nI (show 1 < 93 by omega) (by omega)) dX4_ofPlan_47 ?_
        refine tp_as (cl_as (by omega) ej_8) ?_
        refine lv_goto (tgt := 58) hx hb dX4_ofPlan_48 (by decide) ?_
        subst hQe
        have hP9 := hP.sub (ws' := [(m0, .inr (4, [.ref m1, .ref m2, .int (nI bk), .ref m3, .ref m4, .ref m5, .ref m6, .int sd, .ref m7, .ref m8, .int cl, .int pc, .int op])), (m1, .inl (km1, 93, .inl nw)), (m7, .inl (km7, 1525, .inl vl_2)), (m8, .inl (km8, 24, .inl pl_3))]) [0, 1, 2, 3] rfl
        have hD9 := hD.sub (ws' := [(m0, .inr (4, [.ref m1, .ref m2, .int (nI bk), .ref m3, .ref m4, .ref m5, .ref m6, .int sd, .ref m7, .ref m8, .int cl, .int pc, .int op])), (m1, .inl (km1, 93, .inl nw)), (m7, .inl (km7, 1525, .inl vl_2)), (m8, .inl (km8, 24, .inl pl_3))]) [0, 1, 2, 3] (by decide) rfl
        have hK9 := hK.sub (tys' := [(km1, .int), (km7, .int), (km8, .int)]) [0, 1, 2] rfl
        subst hAe
        exact W.iret (v := (nI j_8)) hx hb hr (fun t ht hW => ⟨⟨_, _, rfl, rfl, vl_2, pl_3, (by first | assumption | omega), by rw [ht]; exact hP9, va_K.moved hW.alike hK9, hD9⟩, hS.F ht⟩) hS.2.2 dX4_ofPlan_58
    · refine lv_aload_n hx hb dX4_ofPlan_15 rfl (lv_at hl 0 rfl) ?_
      refine lv_iload_n hx hb dX4_ofPlan_16 rfl (lv_at hl 1 rfl) ?_
      refine lv_bipush (v := nI 10) hx hb dX4_ofPlan_17 (by decide) ?_
      refine lv_icmp_ne (tgt := 26) hx hb dX4_ofPlan_19 (by decide) (fun c_19 => ?_) (fun c_19 => ?_)
      · refine lv_iconst (v := (-1)) hx hb dX4_ofPlan_26 (by decide) ?_
        have hPc := hP.sub (ws' := [(m0, .inr (4, [.ref m1, .ref m2, .int (nI bk), .ref m3, .ref m4, .ref m5, .ref m6, .int sd, .ref m7, .ref m8, .int cl, .int pc, .int op])), (m1, .inl (km1, 93, .inl nw)), (m8, .inl (km8, 24, .inl pl_3))]) [0, 1, 3] rfl
        have hKc := hK.sub (tys' := [(km1, .int), (km8, .int)]) [0, 2] rfl
        refine va_calli (va_runV (As := [.int ((-1))]) (rest := []) ⟨hx, hb, hml, hown, hts⟩ (c_X4_traded l dC dI m0 m1 m8 m2 m3 m4 m5 m6 m7 km1 km8 bk sd cl pc op nw pl_3 ((-1)) (by first | assumption | omega) (by first | assumption | omega) (by first | assumption | omega) ) (cwV 1 hts gX4_ofPlan_X4_traded rfl rfl rfl (by decide +kernel) ⟨Nat.le_of_ble_eq_true rfl, Nat.le_of_ble_eq_true rfl⟩) ⟨fun a U g mk q => by obtain ⟨q0, qP, qK⟩ := q; exact ⟨q0, qP, va_K.moved (u := U) (U := U.calling g mk a) (Vm.Alike.refl U.vm) qK⟩, va_recv hKc hPc (ci := 4) (q0 := 0) rfl rfl, fun U hU hW => ⟨rfl, by rw [hU]; exact hPc, va_K.moved hW.alike hKc⟩⟩ rfl rfl hl.1 rfl (lv_room (Nat.le_of_ble_eq_true rfl)) dX4_ofPlan_27 ⟨Nat.le_of_ble_eq_true rfl, Nat.le_of_ble_eq_true rfl⟩) hS (fun q _ h => h.elim) (fun q h => h.elim) (fun r_9 u9 t9 H1 locs ht hvm hw hB hz1 hk1 hS => ?_)
        refine W.widen (k := 0) (n := 0) (Nat.le_of_ble_eq_true rfl) (Nat.le_of_ble_eq_true rfl) ?_
        have hP := hP.kept (H1 := H1) (fun k q hk => hk1 q.1 (hP k q hk).lt (fun h => h))
        clear hz1 hk1 hB ht hvm t9
        generalize H1 = H at hP hS ⊢
        have hP : va_P (dC, dI) vwCl [(m0, .inr (4, [.ref m1, .ref m2, .int (nI bk), .ref m3, .ref m4, .ref m5, .ref m6, .int sd, .ref m7, .ref m8, .int cl, .int pc, .int op])), (m1, .inl (km1, 93, .inl nw)), (m7, .inl (km7, 1525, .inl vl_2)), (m8, .inl (km8, 24, .inl pl_3))] H := hP
        clear hw
        subst hQe
        have hP9 := hP.sub (ws' := [(m0, .inr (4, [.ref m1, .ref m2, .int (nI bk), .ref m3, .ref m4, .ref m5, .ref m6, .int sd, .ref m7, .ref m8, .int cl, .int pc, .int op])), (m1, .inl (km1, 93, .inl nw)), (m7, .inl (km7, 1525, .inl vl_2)), (m8, .inl (km8, 24, .inl pl_3))]) [0, 1, 2, 3] rfl
        have hD9 := hD.sub (ws' := [(m0, .inr (4, [.ref m1, .ref m2, .int (nI bk), .ref m3, .ref m4, .ref m5, .ref m6, .int sd, .ref m7, .ref m8, .int cl, .int pc, .int op])), (m1, .inl (km1, 93, .inl nw)), (m7, .inl (km7, 1525, .inl vl_2)), (m8, .inl (km8, 24, .inl pl_3))]) [0, 1, 2, 3] (by decide) rfl
        have hK9 := hK.sub (tys' := [(km1, .int), (km7, .int), (km8, .int)]) [0, 1, 2] rfl
        subst hAe
        exact W.iret (v := r_9) hx hb hr (fun t ht hW => ⟨⟨_, _, rfl, rfl, vl_2, pl_3, (by first | assumption | omega), by rw [ht]; exact hP9, va_K.moved hW.alike hK9, hD9⟩, hS.F ht⟩) hS.2.2 dX4_ofPlan_30
      · refine lv_iconst (v := nI 1) hx hb dX4_ofPlan_22 (by decide) ?_
        refine lv_goto (tgt := 27) hx hb dX4_ofPlan_23 (by decide) ?_
        have hPc := hP.sub (ws' := [(m0, .inr (4, [.ref m1, .ref m2, .int (nI bk), .ref m3, .ref m4, .ref m5, .ref m6, .int sd, .ref m7, .ref m8, .int cl, .int pc, .int op])), (m1, .inl (km1, 93, .inl nw)), (m8, .inl (km8, 24, .inl pl_3))]) [0, 1, 3] rfl
        have hKc := hK.sub (tys' := [(km1, .int), (km8, .int)]) [0, 2] rfl
        refine va_calli (va_runV (As := [.int (nI 1)]) (rest := []) ⟨hx, hb, hml, hown, hts⟩ (c_X4_traded l dC dI m0 m1 m8 m2 m3 m4 m5 m6 m7 km1 km8 bk sd cl pc op nw pl_3 (nI 1) (by first | assumption | omega) (by first | assumption | omega) (by first | assumption | omega) ) (cwV 1 hts gX4_ofPlan_X4_traded rfl rfl rfl (by decide +kernel) ⟨Nat.le_of_ble_eq_true rfl, Nat.le_of_ble_eq_true rfl⟩) ⟨fun a U g mk q => by obtain ⟨q0, qP, qK⟩ := q; exact ⟨q0, qP, va_K.moved (u := U) (U := U.calling g mk a) (Vm.Alike.refl U.vm) qK⟩, va_recv hKc hPc (ci := 4) (q0 := 0) rfl rfl, fun U hU hW => ⟨rfl, by rw [hU]; exact hPc, va_K.moved hW.alike hKc⟩⟩ rfl rfl hl.1 rfl (lv_room (Nat.le_of_ble_eq_true rfl)) dX4_ofPlan_27 ⟨Nat.le_of_ble_eq_true rfl, Nat.le_of_ble_eq_true rfl⟩) hS (fun q _ h => h.elim) (fun q h => h.elim) (fun r_10 u9 t9 H1 locs ht hvm hw hB hz1 hk1 hS => ?_)
        refine W.widen (k := 0) (n := 0) (Nat.le_of_ble_eq_true rfl) (Nat.le_of_ble_eq_true rfl) ?_
        have hP := hP.kept (H1 := H1) (fun k q hk => hk1 q.1 (hP k q hk).lt (fun h => h))
        clear hz1 hk1 hB ht hvm t9
        generalize H1 = H at hP hS ⊢
        have hP : va_P (dC, dI) vwCl [(m0, .inr (4, [.ref m1, .ref m2, .int (nI bk), .ref m3, .ref m4, .ref m5, .ref m6, .int sd, .ref m7, .ref m8, .int cl, .int pc, .int op])), (m1, .inl (km1, 93, .inl nw)), (m7, .inl (km7, 1525, .inl vl_2)), (m8, .inl (km8, 24, .inl pl_3))] H := hP
        clear hw
        subst hQe
        have hP9 := hP.sub (ws' := [(m0, .inr (4, [.ref m1, .ref m2, .int (nI bk), .ref m3, .ref m4, .ref m5, .ref m6, .int sd, .ref m7, .ref m8, .int cl, .int pc, .int op])), (m1, .inl (km1, 93, .inl nw)), (m7, .inl (km7, 1525, .inl vl_2)), (m8, .inl (km8, 24, .inl pl_3))]) [0, 1, 2, 3] rfl
        have hD9 := hD.sub (ws' := [(m0, .inr (4, [.ref m1, .ref m2, .int (nI bk), .ref m3, .ref m4, .ref m5, .ref m6, .int sd, .ref m7, .ref m8, .int cl, .int pc, .int op])), (m1, .inl (km1, 93, .inl nw)), (m7, .inl (km7, 1525, .inl vl_2)), (m8, .inl (km8, 24, .inl pl_3))]) [0, 1, 2, 3] (by decide) rfl
        have hK9 := hK.sub (tys' := [(km1, .int), (km7, .int), (km8, .int)]) [0, 1, 2] rfl
        subst hAe
        exact W.iret (v := r_10) hx hb hr (fun t ht hW => ⟨⟨_, _, rfl, rfl, vl_2, pl_3, (by first | assumption | omega), by rw [ht]; exact hP9, va_K.moved hW.alike hK9, hD9⟩, hS.F ht⟩) hS.2.2 dX4_ofPlan_30
  · refine lv_iconst (v := (-1)) hx hb dX4_ofPlan_7 (by decide) ?_
    subst hQe
    have hP9 := hP.sub (ws' := [(m0, .inr (4, [.ref m1, .ref m2, .int (nI bk), .ref m3, .ref m4, .ref m5, .ref m6, .int sd, .ref m7, .ref m8, .int cl, .int pc, .int op])), (m1, .inl (km1, 93, .inl nw)), (m7, .inl (km7, 1525, .inl vl_2)), (m8, .inl (km8, 24, .inl pl_3))]) [0, 1, 2, 3] rfl
    have hD9 := hD.sub (ws' := [(m0, .inr (4, [.ref m1, .ref m2, .int (nI bk), .ref m3, .ref m4, .ref m5, .ref m6, .int sd, .ref m7, .ref m8, .int cl, .int pc, .int op])), (m1, .inl (km1, 93, .inl nw)), (m7, .inl (km7, 1525, .inl vl_2)), (m8, .inl (km8, 24, .inl pl_3))]) [0, 1, 2, 3] (by decide) rfl
    have hK9 := hK.sub (tys' := [(km1, .int), (km7, .int), (km8, .int)]) [0, 1, 2] rfl
    subst hAe
    exact W.iret (v := ((-1))) hx hb hr (fun t ht hW => ⟨⟨_, _, rfl, rfl, vl_2, pl_3, (by first | assumption | omega), by rw [ht]; exact hP9, va_K.moved hW.alike hK9, hD9⟩, hS.F ht⟩) hS.2.2 dX4_ofPlan_8
set_option maxHeartbeats 4000000 in
set_option maxRecDepth 100000 in
theorem c_X4_toldOf (l : Launch) (dC : Nat → ClassId) (dI : Nat → Nat → Nat) (m0 m1 m7 m8 m2 m3 m4 m5 m6 : Nat) (km1 km7 km8 : ClassId) (sz : Nat) (bk : Nat) (sd : Int32) (cl : Int32) (pc : Int32) (op : Int32) (nw : Nat → Int32) (vl : Nat → Int32) (pl : Nat → Int32) (w : Nat) (i0 : bk ≤ 40) (i1 : okN nw) (i2 : bdA 60 24 pl) (g0 : w ≤ 13) : Met l yX4_toldOf wsX4_toldOf ({ frames := 9, cells := 0, slots := 0, locals := 207 }) (va_Pc [.ref m0, .int (nI w)] (fun U => U.heap.size = sz ∧ va_P (dC, dI) vwCl [(m0, .inr (4, [.ref m1, .ref m2, .int (nI bk), .ref m3, .ref m4, .ref m5, .ref m6, .int sd, .ref m7, .ref m8, .int cl, .int pc, .int op])), (m1, .inl (km1, 93, .inl nw)), (m7, .inl (km7, 1525, .inl vl)), (m8, .inl (km8, 24, .inl pl))] U.heap ∧ va_K (dC, dI) vwCl [(km1, .int), (km7, .int), (km8, .int)] U ∧ va_D (fun _ => True) [(m0, .inr (4, [.ref m1, .ref m2, .int (nI bk), .ref m3, .ref m4, .ref m5, .ref m6, .int sd, .ref m7, .ref m8, .int cl, .int pc, .int op])), (m1, .inl (km1, 93, .inl nw)), (m7, .inl (km7, 1525, .inl vl)), (m8, .inl (km8, 24, .inl pl))])) (va_Qi (fun (r u : Int32) => u = r) (fun r t => ∃ (vl' : Nat → Int32) (pl' : Nat → Int32), bdA 60 24 pl' ∧ va_P (dC, dI) vwCl [(m0, .inr (4, [.ref m1, .ref m2, .int (nI bk), .ref m3, .ref m4, .ref m5, .ref m6, .int sd, .ref m7, .ref m8, .int cl, .int pc, .int op])), (m1, .inl (km1, 93, .inl nw)), (m7, .inl (km7, 1525, .inl vl')), (m8, .inl (km8, 24, .inl pl'))] t.heap ∧ va_K (dC, dI) vwCl [(km1, .int), (km7, .int), (km8, .int)] t ∧ va_D (va_A [(m0, .inr (4, [.ref m1, .ref m2, .int (nI bk), .ref m3, .ref m4, .ref m5, .ref m6, .int sd, .ref m7, .ref m8, .int cl, .int pc, .int op])), (m1, .inl (km1, 93, .inl nw)), (m7, .inl (km7, 1525, .inl vl)), (m8, .inl (km8, 24, .inl pl))] sz) [(m0, .inr (4, [.ref m1, .ref m2, .int (nI bk), .ref m3, .ref m4, .ref m5, .ref m6, .int sd, .ref m7, .ref m8, .int cl, .int pc, .int op])), (m1, .inl (km1, 93, .inl nw)), (m7, .inl (km7, 1525, .inl vl')), (m8, .inl (km8, 24, .inl pl'))]) (va_A [(m0, .inr (4, [.ref m1, .ref m2, .int (nI bk), .ref m3, .ref m4, .ref m5, .ref m6, .int sd, .ref m7, .ref m8, .int cl, .int pc, .int op])), (m1, .inl (km1, 93, .inl nw)), (m7, .inl (km7, 1525, .inl vl)), (m8, .inl (km8, 24, .inl pl))] sz)) 0 0 (va_A [(m0, .inr (4, [.ref m1, .ref m2, .int (nI bk), .ref m3, .ref m4, .ref m5, .ref m6, .int sd, .ref m7, .ref m8, .int cl, .int pc, .int op])), (m1, .inl (km1, 93, .inl nw)), (m7, .inl (km7, 1525, .inl vl)), (m8, .inl (km8, 24, .inl pl))] sz) := by
  refine Met.ofW (cc := cX4_toldOf) (maxL := 2) (ret := (some .int)) (by decide) rfl ?_
  intro p e s m args below meth c s₁ B hml hv
  obtain ⟨rfl, hsz, hP, hK, hD0⟩ := hv
  have hx := B.exec
  have hb := B.bytes
  have hr := B.returns
  have hts := atoms_spec (ws := wsX4_toldOf) B.pre
  have hown : s.vm.findClass RX4 = some m.cls := findClass_of_methodNamed B.named
  have hlocks := B.notSynchronized
  have inX4 : ∀ w ∈ wsX40, w ∈ wsX4_toldOf := fun _ h => List.mem_cons_of_mem _ (List.mem_append_right _ h)
  subst hsz
  have hD := hD0.self (sz := s.heap.size)
  generalize hAe : va_A [(m0, .inr (4, [.ref m1, .ref m2, .int (nI bk), .ref m3, .ref m4, .ref m5, .ref m6, .int sd, .ref m7, .ref m8, .int cl, .int pc, .int op])), (m1, .inl (km1, 93, .inl nw)), (m7, .inl (km7, 1525, .inl vl)), (m8, .inl (km8, 24, .inl pl))] s.heap.size = A at hD ⊢
  have hA : ∀ q : Nat, s.heap.size ≤ q → A q := fun q h => by rw [← hAe]; exact Or.inr h
  have hS : va_S A s.heap s.heap [] := va_S.rf
  have hl := lv_entry ([.ref m0, .int (nI w)]) (n := 2) (Nat.le_of_ble_eq_true rfl)
  rw [lg_entry_eq]
  generalize (lg_sl ([.ref m0, .int (nI w)]) ++ List.replicate (2 - (lg_sl ([.ref m0, .int (nI w)])).length) Slot.unset).toArray = ls at hl ⊢
  generalize hQe : MQ below _ _ s 0 0 _ = Q
  generalize ([.ref m0, .int (nI w)] : List Value).toArray = args at hts hQe ⊢
  have hl : lv_has ls 2 [(0, .ref m0), (1, .int (nI w))] := hl
  refine lv_iload_n hx hb dX4_toldOf_0 rfl (lv_at hl 1 rfl) ?_
  rcases (show w = 0 ∨ w = 1 ∨ w = 2 ∨ w = 3 ∨ w = 4 ∨ w = 5 ∨ w = 6 ∨ w = 7 ∨ w = 8 ∨ w = 9 ∨ w = 10 ∨ w = 11 ∨ w = 12 ∨ w = 13 ∨ 13 < w by omega) with rfl | rfl | rfl | rfl | rfl | rfl | rfl | rfl | rfl | rfl | rfl | rfl | rfl | rfl | c_1
  · refine lv_tableOut (tgt := 92) hx hb dX4_toldOf_1 (Or.inl (by decide)) (by decide) ?_
    refine lv_aload_n hx hb dX4_toldOf_92 rfl (lv_at hl 0 rfl) ?_
    refine va_get (D := (dC, dI)) (ci := 4) (v := .ref m1) (C := RX4) (T := TX4) (N := 13) hx hb hts inX4 hown hK hP 0 rfl rfl 0 (by decide) (hts (.fieldLink RX4 7 "StoreSlopesModel" "now" "[I") (List.mem_of_getElem? (i := 1) rfl)) (fun _ h9 => h9) rfl dX4_toldOf_93 ?_
    refine lv_iload_n hx hb dX4_toldOf_96 rfl (lv_at hl 1 rfl) ?_
    obtain ⟨j_1, hj_1, ej_1⟩ := (show okN nw by assumption).1
    refine va_iald hx hb hK hP 1 0 rfl rfl (vp_in_nI (show 0 < 93 by omega) (by omega)) dX4_toldOf_97 ?_
    refine tp_as (cl_as (by omega) ej_1) ?_
    subst hQe
    have hP9 := hP.sub (ws' := [(m0, .inr (4, [.ref m1, .ref m2, .int (nI bk), .ref m3, .ref m4, .ref m5, .ref m6, .int sd, .ref m7, .ref m8, .int cl, .int pc, .int op])), (m1, .inl (km1, 93, .inl nw)), (m7, .inl (km7, 1525, .inl vl)), (m8, .inl (km8, 24, .inl pl))]) [0, 1, 2, 3] rfl
    have hD9 := hD.sub (ws' := [(m0, .inr (4, [.ref m1, .ref m2, .int (nI bk), .ref m3, .ref m4, .ref m5, .ref m6, .int sd, .ref m7, .ref m8, .int cl, .int pc, .int op])), (m1, .inl (km1, 93, .inl nw)), (m7, .inl (km7, 1525, .inl vl)), (m8, .inl (km8, 24, .inl pl))]) [0, 1, 2, 3] (by decide) rfl
    have hK9 := hK.sub (tys' := [(km1, .int), (km7, .int), (km8, .int)]) [0, 1, 2] rfl
    subst hAe
    exact W.iret (v := (nI j_1)) hx hb hr (fun t ht hW => ⟨⟨_, _, rfl, rfl, vl, pl, (by first | assumption | omega), by rw [ht]; exact hP9, va_K.moved hW.alike hK9, hD9⟩, hS.F ht⟩) hS.2.2 dX4_toldOf_98
  · refine lv_tableOut (tgt := 92) hx hb dX4_toldOf_1 (Or.inl (by decide)) (by decide) ?_
    refine lv_aload_n hx hb dX4_toldOf_92 rfl (lv_at hl 0 rfl) ?_
    refine va_get (D := (dC, dI)) (ci := 4) (v := .ref m1) (C := RX4) (T := TX4) (N := 13) hx hb hts inX4 hown hK hP 0 rfl rfl 0 (by decide) (hts (.fieldLink RX4 7 "StoreSlopesModel" "now" "[I") (List.mem_of_getElem? (i := 1) rfl)) (fun _ h9 => h9) rfl dX4_toldOf_93 ?_
    refine lv_iload_n hx hb dX4_toldOf_96 rfl (lv_at hl 1 rfl) ?_
    obtain ⟨j_2, hj_2, ej_2⟩ := (show okN nw by assumption).2.1
    refine va_iald hx hb hK hP 1 0 rfl rfl (vp_in_nI (show 1 < 93 by omega) (by omega)) dX4_toldOf_97 ?_
    refine tp_as (cl_as (by omega) ej_2) ?_
    subst hQe
    have hP9 := hP.sub (ws' := [(m0, .inr (4, [.ref m1, .ref m2, .int (nI bk), .ref m3, .ref m4, .ref m5, .ref m6, .int sd, .ref m7, .ref m8, .int cl, .int pc, .int op])), (m1, .inl (km1, 93, .inl nw)), (m7, .inl (km7, 1525, .inl vl)), (m8, .inl (km8, 24, .inl pl))]) [0, 1, 2, 3] rfl
    have hD9 := hD.sub (ws' := [(m0, .inr (4, [.ref m1, .ref m2, .int (nI bk), .ref m3, .ref m4, .ref m5, .ref m6, .int sd, .ref m7, .ref m8, .int cl, .int pc, .int op])), (m1, .inl (km1, 93, .inl nw)), (m7, .inl (km7, 1525, .inl vl)), (m8, .inl (km8, 24, .inl pl))]) [0, 1, 2, 3] (by decide) rfl
    have hK9 := hK.sub (tys' := [(km1, .int), (km7, .int), (km8, .int)]) [0, 1, 2] rfl
    subst hAe
    exact W.iret (v := (nI j_2)) hx hb hr (fun t ht hW => ⟨⟨_, _, rfl, rfl, vl, pl, (by first | assumption | omega), by rw [ht]; exact hP9, va_K.moved hW.alike hK9, hD9⟩, hS.F ht⟩) hS.2.2 dX4_toldOf_98
  · refine lv_tableOut (tgt := 92) hx hb dX4_toldOf_1 (Or.inl (by decide)) (by decide) ?_
    refine lv_aload_n hx hb dX4_toldOf_92 rfl (lv_at hl 0 rfl) ?_
    refine va_get (D := (dC, dI)) (ci := 4) (v := .ref m1) (C := RX4) (T := TX4) (N := 13) hx hb hts inX4 hown hK hP 0 rfl rfl 0 (by decide) (hts (.fieldLink RX4 7 "StoreSlopesModel" "now" "[I") (List.mem_of_getElem? (i := 1) rfl)) (fun _ h9 => h9) rfl dX4_toldOf_93 ?_
    refine lv_iload_n hx hb dX4_toldOf_96 rfl (lv_at hl 1 rfl) ?_
    obtain ⟨j_3, hj_3, ej_3⟩ := (show okN nw by assumption).2.2.1
    refine va_iald hx hb hK hP 1 0 rfl rfl (vp_in_nI (show 2 < 93 by omega) (by omega)) dX4_toldOf_97 ?_
    refine tp_as (cl_as (by omega) ej_3) ?_
    subst hQe
    have hP9 := hP.sub (ws' := [(m0, .inr (4, [.ref m1, .ref m2, .int (nI bk), .ref m3, .ref m4, .ref m5, .ref m6, .int sd, .ref m7, .ref m8, .int cl, .int pc, .int op])), (m1, .inl (km1, 93, .inl nw)), (m7, .inl (km7, 1525, .inl vl)), (m8, .inl (km8, 24, .inl pl))]) [0, 1, 2, 3] rfl
    have hD9 := hD.sub (ws' := [(m0, .inr (4, [.ref m1, .ref m2, .int (nI bk), .ref m3, .ref m4, .ref m5, .ref m6, .int sd, .ref m7, .ref m8, .int cl, .int pc, .int op])), (m1, .inl (km1, 93, .inl nw)), (m7, .inl (km7, 1525, .inl vl)), (m8, .inl (km8, 24, .inl pl))]) [0, 1, 2, 3] (by decide) rfl
    have hK9 := hK.sub (tys' := [(km1, .int), (km7, .int), (km8, .int)]) [0, 1, 2] rfl
    subst hAe
    exact W.iret (v := (nI j_3)) hx hb hr (fun t ht hW => ⟨⟨_, _, rfl, rfl, vl, pl, (by first | assumption | omega), by rw [ht]; exact hP9, va_K.moved hW.alike hK9, hD9⟩, hS.F ht⟩) hS.2.2 dX4_toldOf_98
  · refine lv_tableOut (tgt := 92) hx hb dX4_toldOf_1 (Or.inl (by decide)) (by decide) ?_
    refine lv_aload_n hx hb dX4_toldOf_92 rfl (lv_at hl 0 rfl) ?_
    refine va_get (D := (dC, dI)) (ci := 4) (v := .ref m1) (C := RX4) (T := TX4) (N := 13) hx hb hts inX4 hown hK hP 0 rfl rfl 0 (by decide) (hts (.fieldLink RX4 7 "StoreSlopesModel" "now" "[I") (List.mem_of_getElem? (i := 1) rfl)) (fun _ h9 => h9) rfl dX4_toldOf_93 ?_
    refine lv_iload_n hx hb dX4_toldOf_96 rfl (lv_at hl 1 rfl) ?_
    obtain ⟨j_4, hj_4, ej_4⟩ := (show okN nw by assumption).2.2.2.1
    refine va_iald hx hb hK hP 1 0 rfl rfl (vp_in_nI (show 3 < 93 by omega) (by omega)) dX4_toldOf_97 ?_
    refine tp_as (cl_as (by omega) ej_4) ?_
    subst hQe
    have hP9 := hP.sub (ws' := [(m0, .inr (4, [.ref m1, .ref m2, .int (nI bk), .ref m3, .ref m4, .ref m5, .ref m6, .int sd, .ref m7, .ref m8, .int cl, .int pc, .int op])), (m1, .inl (km1, 93, .inl nw)), (m7, .inl (km7, 1525, .inl vl)), (m8, .inl (km8, 24, .inl pl))]) [0, 1, 2, 3] rfl
    have hD9 := hD.sub (ws' := [(m0, .inr (4, [.ref m1, .ref m2, .int (nI bk), .ref m3, .ref m4, .ref m5, .ref m6, .int sd, .ref m7, .ref m8, .int cl, .int pc, .int op])), (m1, .inl (km1, 93, .inl nw)), (m7, .inl (km7, 1525, .inl vl)), (m8, .inl (km8, 24, .inl pl))]) [0, 1, 2, 3] (by decide) rfl
    have hK9 := hK.sub (tys' := [(km1, .int), (km7, .int), (km8, .int)]) [0, 1, 2] rfl
    subst hAe
    exact W.iret (v := (nI j_4)) hx hb hr (fun t ht hW => ⟨⟨_, _, rfl, rfl, vl, pl, (by first | assumption | omega), by rw [ht]; exact hP9, va_K.moved hW.alike hK9, hD9⟩, hS.F ht⟩) hS.2.2 dX4_toldOf_98
  · refine lv_tableOut (tgt := 92) hx hb dX4_toldOf_1 (Or.inl (by decide)) (by decide) ?_
    refine lv_aload_n hx hb dX4_toldOf_92 rfl (lv_at hl 0 rfl) ?_
    refine va_get (D := (dC, dI)) (ci := 4) (v := .ref m1) (C := RX4) (T := TX4) (N := 13) hx hb hts inX4 hown hK hP 0 rfl rfl 0 (by decide) (hts (.fieldLink RX4 7 "StoreSlopesModel" "now" "[I") (List.mem_of_getElem? (i := 1) rfl)) (fun _ h9 => h9) rfl dX4_toldOf_93 ?_
    refine lv_iload_n hx hb dX4_toldOf_96 rfl (lv_at hl 1 rfl) ?_
    refine va_iald hx hb hK hP 1 0 rfl rfl (vp_in_nI (show 4 < 93 by omega) (by omega)) dX4_toldOf_97 ?_
    refine tp_any (fun y_5 => ?_)
    subst hQe
    have hP9 := hP.sub (ws' := [(m0, .inr (4, [.ref m1, .ref m2, .int (nI bk), .ref m3, .ref m4, .ref m5, .ref m6, .int sd, .ref m7, .ref m8, .int cl, .int pc, .int op])), (m1, .inl (km1, 93, .inl nw)), (m7, .inl (km7, 1525, .inl vl)), (m8, .inl (km8, 24, .inl pl))]) [0, 1, 2, 3] rfl
    have hD9 := hD.sub (ws' := [(m0, .inr (4, [.ref m1, .ref m2, .int (nI bk), .ref m3, .ref m4, .ref m5, .ref m6, .int sd, .ref m7, .ref m8, .int cl, .int pc, .int op])), (m1, .inl (km1, 93, .inl nw)), (m7, .inl (km7, 1525, .inl vl)), (m8, .inl (km8, 24, .inl pl))]) [0, 1, 2, 3] (by decide) rfl
    have hK9 := hK.sub (tys' := [(km1, .int), (km7, .int), (km8, .int)]) [0, 1, 2] rfl
    subst hAe
    exact W.iret (v := y_5) hx hb hr (fun t ht hW => ⟨⟨_, _, rfl, rfl, vl, pl, (by first | assumption | omega), by rw [ht]; exact hP9, va_K.moved hW.alike hK9, hD9⟩, hS.F ht⟩) hS.2.2 dX4_toldOf_98
  · refine lv_tableIn (off := (51)) (tgt := 52) hx hb dX4_toldOf_1 (by decide) (by decide) (by decide) (by decide) ?_
    refine lv_aload_n hx hb dX4_toldOf_52 rfl (lv_at hl 0 rfl) ?_
    refine va_get (D := (dC, dI)) (ci := 4) (v := .ref m1) (C := RX4) (T := TX4) (N := 13) hx hb hts inX4 hown hK hP 0 rfl rfl 0 (by decide) (hts (.fieldLink RX4 7 "StoreSlopesModel" "now" "[I") (List.mem_of_getElem? (i := 1) rfl)) (fun _ h9 => h9) rfl dX4_toldOf_53 ?_
    refine lv_iconst (v := nI 5) hx hb dX4_toldOf_56 (by decide) ?_
    refine va_iald hx hb hK hP 1 0 rfl rfl (vp_in_nI (show 5 < 93 by omega) (by omega)) dX4_toldOf_57 ?_
    refine tp_any (fun y_6 => ?_)
    refine lv_bipush (v := nI 100) hx hb dX4_toldOf_58 (by decide) ?_
    refine lv_iadd hx hb dX4_toldOf_60 ?_
    refine tp_any (fun y_7 => ?_)
    subst hQe
    have hP9 := hP.sub (ws' := [(m0, .inr (4, [.ref m1, .ref m2, .int (nI bk), .ref m3, .ref m4, .ref m5, .ref m6, .int sd, .ref m7, .ref m8, .int cl, .int pc, .int op])), (m1, .inl (km1, 93, .inl nw)), (m7, .inl (km7, 1525, .inl vl)), (m8, .inl (km8, 24, .inl pl))]) [0, 1, 2, 3] rfl
    have hD9 := hD.sub (ws' := [(m0, .inr (4, [.ref m1, .ref m2, .int (nI bk), .ref m3, .ref m4, .ref m5, .ref m6, .int sd, .ref m7, .ref m8, .int cl, .int pc, .int op])), (m1, .inl (km1, 93, .inl nw)), (m7, .inl (km7, 1525, .inl vl)), (m8, .inl (km8, 24, .inl pl))]) [0, 1, 2, 3] (by decide) rfl
    have hK9 := hK.sub (tys' := [(km1, .int), (km7, .int), (km8, .int)]) [0, 1, 2] rfl
    subst hAe
    exact W.iret (v := y_7) hx hb hr (fun t ht hW => ⟨⟨_, _, rfl, rfl, vl, pl, (by first | assumption | omega), by rw [ht]; exact hP9, va_K.moved hW.alike hK9, hD9⟩, hS.F ht⟩) hS.2.2 dX4_toldOf_61
  · refine lv_tableIn (off := (91)) (tgt := 92) hx hb dX4_toldOf_1 (by decide) (by decide) (by decide) (by decide) ?_
    refine lv_aload_n hx hb dX4_toldOf_92 rfl (lv_at hl 0 rfl) ?_
    refine va_get (D := (dC, dI)) (ci := 4) (v := .ref m1) (C := RX4) (T := TX4) (N := 13) hx hb hts inX4 hown hK hP 0 rfl rfl 0 (by decide) (hts (.fieldLink RX4 7 "StoreSlopesModel" "now" "[I") (List.mem_of_getElem? (i := 1) rfl)) (fun _ h9 => h9) rfl dX4_toldOf_93 ?_
    refine lv_iload_n hx hb dX4_toldOf_96 rfl (lv_at hl 1 rfl) ?_
    refine va_iald hx hb hK hP 1 0 rfl rfl (vp_in_nI (show 6 < 93 by omega) (by omega)) dX4_toldOf_97 ?_
    refine tp_any (fun y_8 => ?_)
    subst hQe
    have hP9 := hP.sub (ws' := [(m0, .inr (4, [.ref m1, .ref m2, .int (nI bk), .ref m3, .ref m4, .ref m5, .ref m6, .int sd, .ref m7, .ref m8, .int cl, .int pc, .int op])), (m1, .inl (km1, 93, .inl nw)), (m7, .inl (km7, 1525, .inl vl)), (m8, .inl (km8, 24, .inl pl))]) [0, 1, 2, 3] rfl
    have hD9 := hD.sub (ws' := [(m0, .inr (4, [.ref m1, .ref m2, .int (nI bk), .ref m3, .ref m4, .ref m5, .ref m6, .int sd, .ref m7, .ref m8, .int cl, .int pc, .int op])), (m1, .inl (km1, 93, .inl nw)), (m7, .inl (km7, 1525, .inl vl)), (m8, .inl (km8, 24, .inl pl))]) [0, 1, 2, 3] (by decide) rfl
    have hK9 := hK.sub (tys' := [(km1, .int), (km7, .int), (km8, .int)]) [0, 1, 2] rfl
    subst hAe
    exact W.iret (v := y_8) hx hb hr (fun t ht hW => ⟨⟨_, _, rfl, rfl, vl, pl, (by first | assumption | omega), by rw [ht]; exact hP9, va_K.moved hW.alike hK9, hD9⟩, hS.F ht⟩) hS.2.2 dX4_toldOf_98
  · refine lv_tableIn (off := (91)) (tgt := 92) hx hb dX4_toldOf_1 (by decide) (by decide) (by decide) (by decide) ?_
    refine lv_aload_n hx hb dX4_toldOf_92 rfl (lv_at hl 0 rfl) ?_
    refine va_get (D := (dC, dI)) (ci := 4) (v := .ref m1) (C := RX4) (T := TX4) (N := 13) hx hb hts inX4 hown hK hP 0 rfl rfl 0 (by decide) (hts (.fieldLink RX4 7 "StoreSlopesModel" "now" "[I") (List.mem_of_getElem? (i := 1) rfl)) (fun _ h9 => h9) rfl dX4_toldOf_93 ?_
    refine lv_iload_n hx hb dX4_toldOf_96 rfl (lv_at hl 1 rfl) ?_
    obtain ⟨j_9, hj_9, ej_9⟩ := (show okN nw by assumption).2.2.2.2.1
    refine va_iald hx hb hK hP 1 0 rfl rfl (vp_in_nI (show 7 < 93 by omega) (by omega)) dX4_toldOf_97 ?_
    refine tp_as (cl_as (by omega) ej_9) ?_
    subst hQe
    have hP9 := hP.sub (ws' := [(m0, .inr (4, [.ref m1, .ref m2, .int (nI bk), .ref m3, .ref m4, .ref m5, .ref m6, .int sd, .ref m7, .ref m8, .int cl, .int pc, .int op])), (m1, .inl (km1, 93, .inl nw)), (m7, .inl (km7, 1525, .inl vl)), (m8, .inl (km8, 24, .inl pl))]) [0, 1, 2, 3] rfl
    have hD9 := hD.sub (ws' := [(m0, .inr (4, [.ref m1, .ref m2, .int (nI bk), .ref m3, .ref m4, .ref m5, .ref m6, .int sd, .ref m7, .ref m8, .int cl, .int pc, .int op])), (m1, .inl (km1, 93, .inl nw)), (m7, .inl (km7, 1525, .inl vl)), (m8, .inl (km8, 24, .inl pl))]) [0, 1, 2, 3] (by decide) rfl
    have hK9 := hK.sub (tys' := [(km1, .int), (km7, .int), (km8, .int)]) [0, 1, 2] rfl
    subst hAe
    exact W.iret (v := (nI j_9)) hx hb hr (fun t ht hW => ⟨⟨_, _, rfl, rfl, vl, pl, (by first | assumption | omega), by rw [ht]; exact hP9, va_K.moved hW.alike hK9, hD9⟩, hS.F ht⟩) hS.2.2 dX4_toldOf_98
  · refine lv_tableIn (off := (61)) (tgt := 62) hx hb dX4_toldOf_1 (by decide) (by decide) (by decide) (by decide) ?_
    refine lv_aload_n hx hb dX4_toldOf_62 rfl (lv_at hl 0 rfl) ?_
    have hPc := hP.sub (ws' := [(m0, .inr (4, [.ref m1, .ref m2, .int (nI bk), .ref m3, .ref m4, .ref m5, .ref m6, .int sd, .ref m7, .ref m8, .int cl, .int pc, .int op])), (m1, .inl (km1, 93, .inl nw)), (m7, .inl (km7, 1525, .inl vl))]) [0, 1, 2] rfl
    have hKc := hK.sub (tys' := [(km1, .int), (km7, .int)]) [0, 1] rfl
    have hDc := hD.sub (ws' := [(m0, .inr (4, [.ref m1, .ref m2, .int (nI bk), .ref m3, .ref m4, .ref m5, .ref m6, .int sd, .ref m7, .ref m8, .int cl, .int pc, .int op])), (m1, .inl (km1, 93, .inl nw)), (m7, .inl (km7, 1525, .inl vl))]) [0, 1, 2] (by decide) rfl
    have hFc := va_free (wc := [(m0, .inr (4, [.ref m1, .ref m2, .int (nI bk), .ref m3, .ref m4, .ref m5, .ref m6, .int sd, .ref m7, .ref m8, .int cl, .int pc, .int op])), (m1, .inl (km1, 93, .inl nw)), (m7, .inl (km7, 1525, .inl vl))]) hD hS hA [0, 1, 2] rfl
    refine va_calli (va_runV (As := []) (rest := []) ⟨hx, hb, hml, hown, hts⟩ (c_X4_bestOf l dC dI m0 m1 m7 m2 m3 m4 m5 m6 m8 km1 km7 s.heap.size bk sd cl pc op nw vl  (by first | assumption | omega) (by first | assumption | omega) ) (cwV 0 hts gX4_toldOf_X4_bestOf rfl rfl rfl (by decide +kernel) ⟨Nat.le_of_ble_eq_true rfl, Nat.le_of_ble_eq_true rfl⟩) ⟨fun a U g mk q => by obtain ⟨q0, q1, qP, qK, qD⟩ := q; exact ⟨q0, q1, qP, va_K.moved (u := U) (U := U.calling g mk a) (Vm.Alike.refl U.vm) qK, qD⟩, va_recv hKc hPc (ci := 4) (q0 := 0) rfl rfl, fun U hU hW => ⟨rfl, by rw [hU], by rw [hU]; exact hPc, va_K.moved hW.alike hKc, hDc.weaken (fun _ _ _ _ => trivial)⟩⟩ rfl rfl hl.1 rfl (lv_room (Nat.le_of_ble_eq_true rfl)) dX4_toldOf_63 ⟨Nat.le_of_ble_eq_true rfl, Nat.le_of_ble_eq_true rfl⟩) hS (fun q _ h => hFc q h) hFc (fun r_10 u9 t9 H1 locs ht hvm hw hB hz1 hk1 hS => ?_)
    refine W.widen (k := 0) (n := 0) (Nat.le_of_ble_eq_true rfl) (Nat.le_of_ble_eq_true rfl) ?_
    obtain ⟨vl_11, h_12, h_13, hP1, hK1, hD1⟩ := hB
    rw [ht] at hP1
    have hw := hw.symm
    subst hw
    obtain ⟨hP, hD⟩ := va_join (wr := [(m8, .inl (km8, 24, .inl pl))]) (w1 := [(m0, .inr (4, [.ref m1, .ref m2, .int (nI bk), .ref m3, .ref m4, .ref m5, .ref m6, .int sd, .ref m7, .ref m8, .int cl, .int pc, .int op])), (m1, .inl (km1, 93, .inl nw)), (m7, .inl (km7, 1525, .inl vl_11))]) hP hD [0, 1, 2] [3] rfl rfl (by decide) (by decide) hk1 hFc hP1 hD1
    clear hPc hDc hKc hFc hz1 hk1 ht hvm hP1 hK1 hD1 t9
    generalize H1 = H at hP hS ⊢
    have hP := hP.sub (ws' := [(m0, .inr (4, [.ref m1, .ref m2, .int (nI bk), .ref m3, .ref m4, .ref m5, .ref m6, .int sd, .ref m7, .ref m8, .int cl, .int pc, .int op])), (m1, .inl (km1, 93, .inl nw)), (m7, .inl (km7, 1525, .inl vl_11)), (m8, .inl (km8, 24, .inl pl))]) [1, 2, 3, 0] rfl
    have hD := hD.sub (ws' := [(m0, .inr (4, [.ref m1, .ref m2, .int (nI bk), .ref m3, .ref m4, .ref m5, .ref m6, .int sd, .ref m7, .ref m8, .int cl, .int pc, .int op])), (m1, .inl (km1, 93, .inl nw)), (m7, .inl (km7, 1525, .inl vl_11)), (m8, .inl (km8, 24, .inl pl))]) [1, 2, 3, 0] (by decide) rfl
    refine va_calli (va_runS (As := [.int r_10]) (rest := []) ⟨hx, hb, hml, hown, hts⟩ (c_X4_shown l dC dI   r_10  ) (va_cwS 1 hts gX4_toldOf_X4_shown rfl rfl rfl (by decide +kernel) ⟨Nat.le_of_ble_eq_true rfl, Nat.le_of_ble_eq_true rfl⟩) ⟨fun a U g mk q => q, fun U hU hW => ⟨rfl, trivial⟩⟩ rfl rfl hl.1 rfl (lv_room (Nat.le_of_ble_eq_true rfl)) dX4_toldOf_66 ⟨Nat.le_of_ble_eq_true rfl, Nat.le_of_ble_eq_true rfl⟩) hS (fun q _ h => h.elim) (fun q h => h.elim) (fun r_15 u9 t9 H1 locs ht hvm hw hB hz1 hk1 hS => ?_)
    refine W.widen (k := 0) (n := 0) (Nat.le_of_ble_eq_true rfl) (Nat.le_of_ble_eq_true rfl) ?_
    have hP := hP.kept (H1 := H1) (fun k q hk => hk1 q.1 (hP k q hk).lt (fun h => h))
    clear hz1 hk1 hB ht hvm t9
    generalize H1 = H at hP hS ⊢
    have hP : va_P (dC, dI) vwCl [(m0, .inr (4, [.ref m1, .ref m2, .int (nI bk), .ref m3, .ref m4, .ref m5, .ref m6, .int sd, .ref m7, .ref m8, .int cl, .int pc, .int op])), (m1, .inl (km1, 93, .inl nw)), (m7, .inl (km7, 1525, .inl vl_11)), (m8, .inl (km8, 24, .inl pl))] H := hP
    clear hw
    subst hQe
    have hP9 := hP.sub (ws' := [(m0, .inr (4, [.ref m1, .ref m2, .int (nI bk), .ref m3, .ref m4, .ref m5, .ref m6, .int sd, .ref m7, .ref m8, .int cl, .int pc, .int op])), (m1, .inl (km1, 93, .inl nw)), (m7, .inl (km7, 1525, .inl vl_11)), (m8, .inl (km8, 24, .inl pl))]) [0, 1, 2, 3] rfl
    have hD9 := hD.sub (ws' := [(m0, .inr (4, [.ref m1, .ref m2, .int (nI bk), .ref m3, .ref m4, .ref m5, .ref m6, .int sd, .ref m7, .ref m8, .int cl, .int pc, .int op])), (m1, .inl (km1, 93, .inl nw)), (m7, .inl (km7, 1525, .inl vl_11)), (m8, .inl (km8, 24, .inl pl))]) [0, 1, 2, 3] (by decide) rfl
    have hK9 := hK.sub (tys' := [(km1, .int), (km7, .int), (km8, .int)]) [0, 1, 2] rfl
    subst hAe
    exact W.iret (v := r_15) hx hb hr (fun t ht hW => ⟨⟨_, _, rfl, rfl, vl_11, pl, (by first | assumption | omega), by rw [ht]; exact hP9, va_K.moved hW.alike hK9, hD9⟩, hS.F ht⟩) hS.2.2 dX4_toldOf_69
  · refine lv_tableIn (off := (69)) (tgt := 70) hx hb dX4_toldOf_1 (by decide) (by decide) (by decide) (by decide) ?_
    refine lv_aload_n hx hb dX4_toldOf_70 rfl (lv_at hl 0 rfl) ?_
    refine va_get (D := (dC, dI)) (ci := 4) (v := .ref m1) (C := RX4) (T := TX4) (N := 13) hx hb hts inX4 hown hK hP 0 rfl rfl 0 (by decide) (hts (.fieldLink RX4 7 "StoreSlopesModel" "now" "[I") (List.mem_of_getElem? (i := 1) rfl)) (fun _ h9 => h9) rfl dX4_toldOf_71 ?_
    refine lv_bipush (v := nI 92) hx hb dX4_toldOf_74 (by decide) ?_
    refine va_iald hx hb hK hP 1 0 rfl rfl (vp_in_nI (show 92 < 93 by omega) (by omega)) dX4_toldOf_76 ?_
    refine tp_any (fun y_16 => ?_)
    refine lv_ldc (own := RX4) (v := (1000000)) hx hb hown (hts (.constant RX4 82 (1000000)) (List.mem_of_getElem? (i := 2) rfl)) dX4_toldOf_77 ?_
    refine lv_iadd hx hb dX4_toldOf_79 ?_
    refine tp_any (fun y_17 => ?_)
    subst hQe
    have hP9 := hP.sub (ws' := [(m0, .inr (4, [.ref m1, .ref m2, .int (nI bk), .ref m3, .ref m4, .ref m5, .ref m6, .int sd, .ref m7, .ref m8, .int cl, .int pc, .int op])), (m1, .inl (km1, 93, .inl nw)), (m7, .inl (km7, 1525, .inl vl)), (m8, .inl (km8, 24, .inl pl))]) [0, 1, 2, 3] rfl
    have hD9 := hD.sub (ws' := [(m0, .inr (4, [.ref m1, .ref m2, .int (nI bk), .ref m3, .ref m4, .ref m5, .ref m6, .int sd, .ref m7, .ref m8, .int cl, .int pc, .int op])), (m1, .inl (km1, 93, .inl nw)), (m7, .inl (km7, 1525, .inl vl)), (m8, .inl (km8, 24, .inl pl))]) [0, 1, 2, 3] (by decide) rfl
    have hK9 := hK.sub (tys' := [(km1, .int), (km7, .int), (km8, .int)]) [0, 1, 2] rfl
    subst hAe
    exact W.iret (v := y_17) hx hb hr (fun t ht hW => ⟨⟨_, _, rfl, rfl, vl, pl, (by first | assumption | omega), by rw [ht]; exact hP9, va_K.moved hW.alike hK9, hD9⟩, hS.F ht⟩) hS.2.2 dX4_toldOf_80
  · refine lv_tableIn (off := (80)) (tgt := 81) hx hb dX4_toldOf_1 (by decide) (by decide) (by decide) (by decide) ?_
    refine lv_aload_n hx hb dX4_toldOf_81 rfl (lv_at hl 0 rfl) ?_
    refine lv_iload_n hx hb dX4_toldOf_82 rfl (lv_at hl 1 rfl) ?_
    have hPc := hP.sub (ws' := [(m0, .inr (4, [.ref m1, .ref m2, .int (nI bk), .ref m3, .ref m4, .ref m5, .ref m6, .int sd, .ref m7, .ref m8, .int cl, .int pc, .int op])), (m1, .inl (km1, 93, .inl nw)), (m7, .inl (km7, 1525, .inl vl)), (m8, .inl (km8, 24, .inl pl))]) [0, 1, 2, 3] rfl
    have hKc := hK.sub (tys' := [(km1, .int), (km7, .int), (km8, .int)]) [0, 1, 2] rfl
    have hDc := hD.sub (ws' := [(m0, .inr (4, [.ref m1, .ref m2, .int (nI bk), .ref m3, .ref m4, .ref m5, .ref m6, .int sd, .ref m7, .ref m8, .int cl, .int pc, .int op])), (m1, .inl (km1, 93, .inl nw)), (m7, .inl (km7, 1525, .inl vl)), (m8, .inl (km8, 24, .inl pl))]) [0, 1, 2, 3] (by decide) rfl
    have hFc := va_free (wc := [(m0, .inr (4, [.ref m1, .ref m2, .int (nI bk), .ref m3, .ref m4, .ref m5, .ref m6, .int sd, .ref m7, .ref m8, .int cl, .int pc, .int op])), (m1, .inl (km1, 93, .inl nw)), (m7, .inl (km7, 1525, .inl vl)), (m8, .inl (km8, 24, .inl pl))]) hD hS hA [0, 1, 2, 3] rfl
    refine va_calli (va_runV (As := [.int (nI 10)]) (rest := []) ⟨hx, hb, hml, hown, hts⟩ (c_X4_ofPlan l dC dI m0 m1 m7 m8 m2 m3 m4 m5 m6 km1 km7 km8 s.heap.size bk sd cl pc op nw vl pl (nI 10) (by first | assumption | omega) (by first | assumption | omega) (by first | assumption | omega) ) (cwV 1 hts gX4_toldOf_X4_ofPlan rfl rfl rfl (by decide +kernel) ⟨Nat.le_of_ble_eq_true rfl, Nat.le_of_ble_eq_true rfl⟩) ⟨fun a U g mk q => by obtain ⟨q0, q1, qP, qK, qD⟩ := q; exact ⟨q0, q1, qP, va_K.moved (u := U) (U := U.calling g mk a) (Vm.Alike.refl U.vm) qK, qD⟩, va_recv hKc hPc (ci := 4) (q0 := 0) rfl rfl, fun U hU hW => ⟨rfl, by rw [hU], by rw [hU]; exact hPc, va_K.moved hW.alike hKc, hDc.weaken (fun _ _ _ _ => trivial)⟩⟩ rfl rfl hl.1 rfl (lv_room (Nat.le_of_ble_eq_true rfl)) dX4_toldOf_83 ⟨Nat.le_of_ble_eq_true rfl, Nat.le_of_ble_eq_true rfl⟩) hS (fun q _ h => hFc q h) hFc (fun r_18 u9 t9 H1 locs ht hvm hw hB hz1 hk1 hS => ?_)
    refine W.widen (k := 0) (n := 0) (Nat.le_of_ble_eq_true rfl) (Nat.le_of_ble_eq_true rfl) ?_
    obtain ⟨vl_19, pl_20, h_21, hP1, hK1, hD1⟩ := hB
    rw [ht] at hP1
    have hw := hw.symm
    subst hw
    obtain ⟨hP, hD⟩ := va_join (wr := []) (w1 := [(m0, .inr (4, [.ref m1, .ref m2, .int (nI bk), .ref m3, .ref m4, .ref m5, .ref m6, .int sd, .ref m7, .ref m8, .int cl, .int pc, .int op])), (m1, .inl (km1, 93, .inl nw)), (m7, .inl (km7, 1525, .inl vl_19)), (m8, .inl (km8, 24, .inl pl_20))]) hP hD [0, 1, 2, 3] [] rfl rfl (by decide) (by decide) hk1 hFc hP1 hD1
    clear hPc hDc hKc hFc hz1 hk1 ht hvm hP1 hK1 hD1 t9
    generalize H1 = H at hP hS ⊢
    have hP := hP.sub (ws' := [(m0, .inr (4, [.ref m1, .ref m2, .int (nI bk), .ref m3, .ref m4, .ref m5, .ref m6, .int sd, .ref m7, .ref m8, .int cl, .int pc, .int op])), (m1, .inl (km1, 93, .inl nw)), (m7, .inl (km7, 1525, .inl vl_19)), (m8, .inl (km8, 24, .inl pl_20))]) [0, 1, 2, 3] rfl
    have hD := hD.sub (ws' := [(m0, .inr (4, [.ref m1, .ref m2, .int (nI bk), .ref m3, .ref m4, .ref m5, .ref m6, .int sd, .ref m7, .ref m8, .int cl, .int pc, .int op])), (m1, .inl (km1, 93, .inl nw)), (m7, .inl (km7, 1525, .inl vl_19)), (m8, .inl (km8, 24, .inl pl_20))]) [0, 1, 2, 3] (by decide) rfl
    subst hQe
    have hP9 := hP.sub (ws' := [(m0, .inr (4, [.ref m1, .ref m2, .int (nI bk), .ref m3, .ref m4, .ref m5, .ref m6, .int sd, .ref m7, .ref m8, .int cl, .int pc, .int op])), (m1, .inl (km1, 93, .inl nw)), (m7, .inl (km7, 1525, .inl vl_19)), (m8, .inl (km8, 24, .inl pl_20))]) [0, 1, 2, 3] rfl
    have hD9 := hD.sub (ws' := [(m0, .inr (4, [.ref m1, .ref m2, .int (nI bk), .ref m3, .ref m4, .ref m5, .ref m6, .int sd, .ref m7, .ref m8, .int cl, .int pc, .int op])), (m1, .inl (km1, 93, .inl nw)), (m7, .inl (km7, 1525, .inl vl_19)), (m8, .inl (km8, 24, .inl pl_20))]) [0, 1, 2, 3] (by decide) rfl
    have hK9 := hK.sub (tys' := [(km1, .int), (km7, .int), (km8, .int)]) [0, 1, 2] rfl
    subst hAe
    exact W.iret (v := r_18) hx hb hr (fun t ht hW => ⟨⟨_, _, rfl, rfl, vl_19, pl_20, (by first | assumption | omega), by rw [ht]; exact hP9, va_K.moved hW.alike hK9, hD9⟩, hS.F ht⟩) hS.2.2 dX4_toldOf_86
  · refine lv_tableIn (off := (80)) (tgt := 81) hx hb dX4_toldOf_1 (by decide) (by decide) (by decide) (by decide) ?_
    refine lv_aload_n hx hb dX4_toldOf_81 rfl (lv_at hl 0 rfl) ?_
    refine lv_iload_n hx hb dX4_toldOf_82 rfl (lv_at hl 1 rfl) ?_
    have hPc := hP.sub (ws' := [(m0, .inr (4, [.ref m1, .ref m2, .int (nI bk), .ref m3, .ref m4, .ref m5, .ref m6, .int sd, .ref m7, .ref m8, .int cl, .int pc, .int op])), (m1, .inl (km1, 93, .inl nw)), (m7, .inl (km7, 1525, .inl vl)), (m8, .inl (km8, 24, .inl pl))]) [0, 1, 2, 3] rfl
    have hKc := hK.sub (tys' := [(km1, .int), (km7, .int), (km8, .int)]) [0, 1, 2] rfl
    have hDc := hD.sub (ws' := [(m0, .inr (4, [.ref m1, .ref m2, .int (nI bk), .ref m3, .ref m4, .ref m5, .ref m6, .int sd, .ref m7, .ref m8, .int cl, .int pc, .int op])), (m1, .inl (km1, 93, .inl nw)), (m7, .inl (km7, 1525, .inl vl)), (m8, .inl (km8, 24, .inl pl))]) [0, 1, 2, 3] (by decide) rfl
    have hFc := va_free (wc := [(m0, .inr (4, [.ref m1, .ref m2, .int (nI bk), .ref m3, .ref m4, .ref m5, .ref m6, .int sd, .ref m7, .ref m8, .int cl, .int pc, .int op])), (m1, .inl (km1, 93, .inl nw)), (m7, .inl (km7, 1525, .inl vl)), (m8, .inl (km8, 24, .inl pl))]) hD hS hA [0, 1, 2, 3] rfl
    refine va_calli (va_runV (As := [.int (nI 11)]) (rest := []) ⟨hx, hb, hml, hown, hts⟩ (c_X4_ofPlan l dC dI m0 m1 m7 m8 m2 m3 m4 m5 m6 km1 km7 km8 s.heap.size bk sd cl pc op nw vl pl (nI 11) (by first | assumption | omega) (by first | assumption | omega) (by first | assumption | omega) ) (cwV 1 hts gX4_toldOf_X4_ofPlan rfl rfl rfl (by decide +kernel) ⟨Nat.le_of_ble_eq_true rfl, Nat.le_of_ble_eq_true rfl⟩) ⟨fun a U g mk q => by obtain ⟨q0, q1, qP, qK, qD⟩ := q; exact ⟨q0, q1, qP, va_K.moved (u := U) (U := U.calling g mk a) (Vm.Alike.refl U.vm) qK, qD⟩, va_recv hKc hPc (ci := 4) (q0 := 0) rfl rfl, fun U hU hW => ⟨rfl, by rw [hU], by rw [hU]; exact hPc, va_K.moved hW.alike hKc, hDc.weaken (fun _ _ _ _ => trivial)⟩⟩ rfl rfl hl.1 rfl (lv_room (Nat.le_of_ble_eq_true rfl)) dX4_toldOf_83 ⟨Nat.le_of_ble_eq_true rfl, Nat.le_of_ble_eq_true rfl⟩) hS (fun q _ h => hFc q h) hFc (fun r_23 u9 t9 H1 locs ht hvm hw hB hz1 hk1 hS => ?_)
    refine W.widen (k := 0) (n := 0) (Nat.le_of_ble_eq_true rfl) (Nat.le_of_ble_eq_true rfl) ?_
    obtain ⟨vl_24, pl_25, h_26, hP1, hK1, hD1⟩ := hB
    rw [ht] at hP1
    have hw := hw.symm
    subst hw
    obtain ⟨hP, hD⟩ := va_join (wr := []) (w1 := [(m0, .inr (4, [.ref m1, .ref m2, .int (nI bk), .ref m3, .ref m4, .ref m5, .ref m6, .int sd, .ref m7, .ref m8, .int cl, .int pc, .int op])), (m1, .inl (km1, 93, .inl nw)), (m7, .inl (km7, 1525, .inl vl_24)), (m8, .inl (km8, 24, .inl pl_25))]) hP hD [0, 1, 2, 3] [] rfl rfl (by decide) (by decide) hk1 hFc hP1 hD1
    clear hPc hDc hKc hFc hz1 hk1 ht hvm hP1 hK1 hD1 t9
    generalize H1 = H at hP hS ⊢
    have hP := hP.sub (ws' := [(m0, .inr (4, [.ref m1, .ref m2, .int (nI bk), .ref m3, .ref m4, .ref m5, .ref m6, .int sd, .ref m7, .ref m8, .int cl, .int pc, .int op])), (m1, .inl (km1, 93, .inl nw)), (m7, .inl (km7, 1525, .inl vl_24)), (m8, .inl (km8, 24, .inl pl_25))]) [0, 1, 2, 3] rfl
    have hD := hD.sub (ws' := [(m0, .inr (4, [.ref m1, .ref m2, .int (nI bk), .ref m3, .ref m4, .ref m5, .ref m6, .int sd, .ref m7, .ref m8, .int cl, .int pc, .int op])), (m1, .inl (km1, 93, .inl nw)), (m7, .inl (km7, 1525, .inl vl_24)), (m8, .inl (km8, 24, .inl pl_25))]) [0, 1, 2, 3] (by decide) rfl
    subst hQe
    have hP9 := hP.sub (ws' := [(m0, .inr (4, [.ref m1, .ref m2, .int (nI bk), .ref m3, .ref m4, .ref m5, .ref m6, .int sd, .ref m7, .ref m8, .int cl, .int pc, .int op])), (m1, .inl (km1, 93, .inl nw)), (m7, .inl (km7, 1525, .inl vl_24)), (m8, .inl (km8, 24, .inl pl_25))]) [0, 1, 2, 3] rfl
    have hD9 := hD.sub (ws' := [(m0, .inr (4, [.ref m1, .ref m2, .int (nI bk), .ref m3, .ref m4, .ref m5, .ref m6, .int sd, .ref m7, .ref m8, .int cl, .int pc, .int op])), (m1, .inl (km1, 93, .inl nw)), (m7, .inl (km7, 1525, .inl vl_24)), (m8, .inl (km8, 24, .inl pl_25))]) [0, 1, 2, 3] (by decide) rfl
    have hK9 := hK.sub (tys' := [(km1, .int), (km7, .int), (km8, .int)]) [0, 1, 2] rfl
    subst hAe
    exact W.iret (v := r_23) hx hb hr (fun t ht hW => ⟨⟨_, _, rfl, rfl, vl_24, pl_25, (by first | assumption | omega), by rw [ht]; exact hP9, va_K.moved hW.alike hK9, hD9⟩, hS.F ht⟩) hS.2.2 dX4_toldOf_86
  · refine lv_tableIn (off := (80)) (tgt := 81) hx hb dX4_toldOf_1 (by decide) (by decide) (by decide) (by decide) ?_
    refine lv_aload_n hx hb dX4_toldOf_81 rfl (lv_at hl 0 rfl) ?_
    refine lv_iload_n hx hb dX4_toldOf_82 rfl (lv_at hl 1 rfl) ?_
    have hPc := hP.sub (ws' := [(m0, .inr (4, [.ref m1, .ref m2, .int (nI bk), .ref m3, .ref m4, .ref m5, .ref m6, .int sd, .ref m7, .ref m8, .int cl, .int pc, .int op])), (m1, .inl (km1, 93, .inl nw)), (m7, .inl (km7, 1525, .inl vl)), (m8, .inl (km8, 24, .inl pl))]) [0, 1, 2, 3] rfl
    have hKc := hK.sub (tys' := [(km1, .int), (km7, .int), (km8, .int)]) [0, 1, 2] rfl
    have hDc := hD.sub (ws' := [(m0, .inr (4, [.ref m1, .ref m2, .int (nI bk), .ref m3, .ref m4, .ref m5, .ref m6, .int sd, .ref m7, .ref m8, .int cl, .int pc, .int op])), (m1, .inl (km1, 93, .inl nw)), (m7, .inl (km7, 1525, .inl vl)), (m8, .inl (km8, 24, .inl pl))]) [0, 1, 2, 3] (by decide) rfl
    have hFc := va_free (wc := [(m0, .inr (4, [.ref m1, .ref m2, .int (nI bk), .ref m3, .ref m4, .ref m5, .ref m6, .int sd, .ref m7, .ref m8, .int cl, .int pc, .int op])), (m1, .inl (km1, 93, .inl nw)), (m7, .inl (km7, 1525, .inl vl)), (m8, .inl (km8, 24, .inl pl))]) hD hS hA [0, 1, 2, 3] rfl
    refine va_calli (va_runV (As := [.int (nI 12)]) (rest := []) ⟨hx, hb, hml, hown, hts⟩ (c_X4_ofPlan l dC dI m0 m1 m7 m8 m2 m3 m4 m5 m6 km1 km7 km8 s.heap.size bk sd cl pc op nw vl pl (nI 12) (by first | assumption | omega) (by first | assumption | omega) (by first | assumption | omega) ) (cwV 1 hts gX4_toldOf_X4_ofPlan rfl rfl rfl (by decide +kernel) ⟨Nat.le_of_ble_eq_true rfl, Nat.le_of_ble_eq_true rfl⟩) ⟨fun a U g mk q => by obtain ⟨q0, q1, qP, qK, qD⟩ := q; exact ⟨q0, q1, qP, va_K.moved (u := U) (U := U.calling g mk a) (Vm.Alike.refl U.vm) qK, qD⟩, va_recv hKc hPc (ci := 4) (q0 := 0) rfl rfl, fun U hU hW => ⟨rfl, by rw [hU], by rw [hU]; exact hPc, va_K.moved hW.alike hKc, hDc.weaken (fun _ _ _ _ => trivial)⟩⟩ rfl rfl hl.1 rfl (lv_room (Nat.le_of_ble_eq_true rfl)) dX4_toldOf_83 ⟨Nat.le_of_ble_eq_true rfl, Nat.le_of_ble_eq_true rfl⟩) hS (fun q _ h => hFc q h) hFc (fun r_28 u9 t9 H1 locs ht hvm hw hB hz1 hk1 hS => ?_)
    refine W.widen (k := 0) (n := 0) (Nat.le_of_ble_eq_true rfl) (Nat.le_of_ble_eq_true rfl) ?_
    obtain ⟨vl_29, pl_30, h_31, hP1, hK1, hD1⟩ := hB
    rw [ht] at hP1
    have hw := hw.symm
    subst hw
    obtain ⟨hP, hD⟩ := va_join (wr := []) (w1 := [(m0, .inr (4, [.ref m1, .ref m2, .int (nI bk), .ref m3, .ref m4, .ref m5, .ref m6, .int sd, .ref m7, .ref m8, .int cl, .int pc, .int op])), (m1, .inl (km1, 93, .inl nw)), (m7, .inl (km7, 1525, .inl vl_29)), (m8, .inl (km8, 24, .inl pl_30))]) hP hD [0, 1, 2, 3] [] rfl rfl (by decide) (by decide) hk1 hFc hP1 hD1
    clear hPc hDc hKc hFc hz1 hk1 ht hvm hP1 hK1 hD1 t9
    generalize H1 = H at hP hS ⊢
    have hP := hP.sub (ws' := [(m0, .inr (4, [.ref m1, .ref m2, .int (nI bk), .ref m3, .ref m4, .ref m5, .ref m6, .int sd, .ref m7, .ref m8, .int cl, .int pc, .int op])), (m1, .inl (km1, 93, .inl nw)), (m7, .inl (km7, 1525, .inl vl_29)), (m8, .inl (km8, 24, .inl pl_30))]) [0, 1, 2, 3] rfl
    have hD := hD.sub (ws' := [(m0, .inr (4, [.ref m1, .ref m2, .int (nI bk), .ref m3, .ref m4, .ref m5, .ref m6, .int sd, .ref m7, .ref m8, .int cl, .int pc, .int op])), (m1, .inl (km1, 93, .inl nw)), (m7, .inl (km7, 1525, .inl vl_29)), (m8, .inl (km8, 24, .inl pl_30))]) [0, 1, 2, 3] (by decide) rfl
    subst hQe
    have hP9 := hP.sub (ws' := [(m0, .inr (4, [.ref m1, .ref m2, .int (nI bk), .ref m3, .ref m4, .ref m5, .ref m6, .int sd, .ref m7, .ref m8, .int cl, .int pc, .int op])), (m1, .inl (km1, 93, .inl nw)), (m7, .inl (km7, 1525, .inl vl_29)), (m8, .inl (km8, 24, .inl pl_30))]) [0, 1, 2, 3] rfl
    have hD9 := hD.sub (ws' := [(m0, .inr (4, [.ref m1, .ref m2, .int (nI bk), .ref m3, .ref m4, .ref m5, .ref m6, .int sd, .ref m7, .ref m8, .int cl, .int pc, .int op])), (m1, .inl (km1, 93, .inl nw)), (m7, .inl (km7, 1525, .inl vl_29)), (m8, .inl (km8, 24, .inl pl_30))]) [0, 1, 2, 3] (by decide) rfl
    have hK9 := hK.sub (tys' := [(km1, .int), (km7, .int), (km8, .int)]) [0, 1, 2] rfl
    subst hAe
    exact W.iret (v := r_28) hx hb hr (fun t ht hW => ⟨⟨_, _, rfl, rfl, vl_29, pl_30, (by first | assumption | omega), by rw [ht]; exact hP9, va_K.moved hW.alike hK9, hD9⟩, hS.F ht⟩) hS.2.2 dX4_toldOf_86
  · refine lv_tableIn (off := (86)) (tgt := 87) hx hb dX4_toldOf_1 (by decide) (by decide) (by decide) (by decide) ?_
    refine lv_aload_n hx hb dX4_toldOf_87 rfl (lv_at hl 0 rfl) ?_
    refine va_get (D := (dC, dI)) (ci := 4) (v := .int (nI bk)) (C := RX4) (T := TX4) (N := 13) hx hb hts inX4 hown hK hP 0 rfl rfl 2 (by decide) (hts (.fieldLink RX4 99 "StoreSlopesModel" "backs" "I") (List.mem_of_getElem? (i := 3) rfl)) (fun _ h9 => h9) rfl dX4_toldOf_88 ?_
    subst hQe
    have hP9 := hP.sub (ws' := [(m0, .inr (4, [.ref m1, .ref m2, .int (nI bk), .ref m3, .ref m4, .ref m5, .ref m6, .int sd, .ref m7, .ref m8, .int cl, .int pc, .int op])), (m1, .inl (km1, 93, .inl nw)), (m7, .inl (km7, 1525, .inl vl)), (m8, .inl (km8, 24, .inl pl))]) [0, 1, 2, 3] rfl
    have hD9 := hD.sub (ws' := [(m0, .inr (4, [.ref m1, .ref m2, .int (nI bk), .ref m3, .ref m4, .ref m5, .ref m6, .int sd, .ref m7, .ref m8, .int cl, .int pc, .int op])), (m1, .inl (km1, 93, .inl nw)), (m7, .inl (km7, 1525, .inl vl)), (m8, .inl (km8, 24, .inl pl))]) [0, 1, 2, 3] (by decide) rfl
    have hK9 := hK.sub (tys' := [(km1, .int), (km7, .int), (km8, .int)]) [0, 1, 2] rfl
    subst hAe
    exact W.iret (v := (nI bk)) hx hb hr (fun t ht hW => ⟨⟨_, _, rfl, rfl, vl, pl, (by first | assumption | omega), by rw [ht]; exact hP9, va_K.moved hW.alike hK9, hD9⟩, hS.F ht⟩) hS.2.2 dX4_toldOf_91
  · exfalso; omega
set_option maxHeartbeats 4000000 in
set_option maxRecDepth 100000 in
theorem c_X4_isBought (l : Launch) (dC : Nat → ClassId) (dI : Nat → Nat → Nat) (m0 m1 m7 m8 m2 m3 m4 m5 m6 : Nat) (km1 km7 km8 : ClassId) (sz : Nat) (bk : Nat) (sd : Int32) (cl : Int32) (pc : Int32) (op : Int32) (nw : Nat → Int32) (vl : Nat → Int32) (pl : Nat → Int32) (h : Nat) (mo : Int32) (i0 : bk ≤ 40) (i1 : okN nw) (i2 : bdA 60 24 pl) (g0 : h < 24) (g1 : ∃ j : Nat, j ≤ h ∧ nw 0 = nI j) : Met l yX4_isBought wsX4_isBought ({ frames := 8, cells := 0, slots := 0, locals := 186 }) (va_Pc [.ref m0, .int (nI h), .int mo] (fun U => U.heap.size = sz ∧ va_P (dC, dI) vwCl [(m0, .inr (4, [.ref m1, .ref m2, .int (nI bk), .ref m3, .ref m4, .ref m5, .ref m6, .int sd, .ref m7, .ref m8, .int cl, .int pc, .int op])), (m1, .inl (km1, 93, .inl nw)), (m7, .inl (km7, 1525, .inl vl)), (m8, .inl (km8, 24, .inl pl))] U.heap ∧ va_K (dC, dI) vwCl [(km1, .int), (km7, .int), (km8, .int)] U ∧ va_D (fun _ => True) [(m0, .inr (4, [.ref m1, .ref m2, .int (nI bk), .ref m3, .ref m4, .ref m5, .ref m6, .int sd, .ref m7, .ref m8, .int cl, .int pc, .int op])), (m1, .inl (km1, 93, .inl nw)), (m7, .inl (km7, 1525, .inl vl)), (m8, .inl (km8, 24, .inl pl))])) (va_Qi (fun (r u : Int32) => u = r) (fun r t => ∃ (vl' : Nat → Int32) (pl' : Nat → Int32) (pc' : Int32) (op' : Int32), bdA 60 24 pl' ∧ va_P (dC, dI) vwCl [(m0, .inr (4, [.ref m1, .ref m2, .int (nI bk), .ref m3, .ref m4, .ref m5, .ref m6, .int sd, .ref m7, .ref m8, .int cl, .int pc', .int op'])), (m1, .inl (km1, 93, .inl nw)), (m7, .inl (km7, 1525, .inl vl')), (m8, .inl (km8, 24, .inl pl'))] t.heap ∧ va_K (dC, dI) vwCl [(km1, .int), (km7, .int), (km8, .int)] t ∧ va_D (va_A [(m0, .inr (4, [.ref m1, .ref m2, .int (nI bk), .ref m3, .ref m4, .ref m5, .ref m6, .int sd, .ref m7, .ref m8, .int cl, .int pc, .int op])), (m1, .inl (km1, 93, .inl nw)), (m7, .inl (km7, 1525, .inl vl)), (m8, .inl (km8, 24, .inl pl))] sz) [(m0, .inr (4, [.ref m1, .ref m2, .int (nI bk), .ref m3, .ref m4, .ref m5, .ref m6, .int sd, .ref m7, .ref m8, .int cl, .int pc', .int op'])), (m1, .inl (km1, 93, .inl nw)), (m7, .inl (km7, 1525, .inl vl')), (m8, .inl (km8, 24, .inl pl'))]) (va_A [(m0, .inr (4, [.ref m1, .ref m2, .int (nI bk), .ref m3, .ref m4, .ref m5, .ref m6, .int sd, .ref m7, .ref m8, .int cl, .int pc, .int op])), (m1, .inl (km1, 93, .inl nw)), (m7, .inl (km7, 1525, .inl vl)), (m8, .inl (km8, 24, .inl pl))] sz)) 0 0 (va_A [(m0, .inr (4, [.ref m1, .ref m2, .int (nI bk), .ref m3, .ref m4, .ref m5, .ref m6, .int sd, .ref m7, .ref m8, .int cl, .int pc, .int op])), (m1, .inl (km1, 93, .inl nw)), (m7, .inl (km7, 1525, .inl vl)), (m8, .inl (km8, 24, .inl pl))] sz) := by
  refine Met.ofW (cc := cX4_isBought) (maxL := 4) (ret := (some .boolean)) (by decide) rfl ?_
  intro p e s m args below meth c s₁ B hml hv
  obtain ⟨rfl, hsz, hP, hK, hD0⟩ := hv
  have hx := B.exec
  have hb := B.bytes
  have hr := B.returns
  have hts := atoms_spec (ws := wsX4_isBought) B.pre
  have hown : s.vm.findClass RX4 = some m.cls := findClass_of_methodNamed B.named
  have hlocks := B.notSynchronized
  have inX4 : ∀ w ∈ wsX40, w ∈ wsX4_isBought := fun _ h => List.mem_cons_of_mem _ (List.mem_append_right _ h)
  subst hsz
  have hD := hD0.self (sz := s.heap.size)
  generalize hAe : va_A [(m0, .inr (4, [.ref m1, .ref m2, .int (nI bk), .ref m3, .ref m4, .ref m5, .ref m6, .int sd, .ref m7, .ref m8, .int cl, .int pc, .int op])), (m1, .inl (km1, 93, .inl nw)), (m7, .inl (km7, 1525, .inl vl)), (m8, .inl (km8, 24, .inl pl))] s.heap.size = A at hD ⊢
  have hA : ∀ q : Nat, s.heap.size ≤ q → A q := fun q h => by rw [← hAe]; exact Or.inr h
  have hS : va_S A s.heap s.heap [] := va_S.rf
  have hl := lv_entry ([.ref m0, .int (nI h), .int mo]) (n := 4) (Nat.le_of_ble_eq_true rfl)
  rw [lg_entry_eq]
  generalize (lg_sl ([.ref m0, .int (nI h), .int mo]) ++ List.replicate (4 - (lg_sl ([.ref m0, .int (nI h), .int mo])).length) Slot.unset).toArray = ls at hl ⊢
  generalize hQe : MQ below _ _ s 0 0 _ = Q
  generalize ([.ref m0, .int (nI h), .int mo] : List Value).toArray = args at hts hQe ⊢
  have hl : lv_has ls 4 [(0, .ref m0), (1, .int (nI h)), (2, .int mo)] := hl
  obtain ⟨ov, hov, eov⟩ := g1
  refine lv_aload_n hx hb dX4_isBought_0 rfl (lv_at hl 0 rfl) ?_
  refine lv_iload_n hx hb dX4_isBought_1 rfl (lv_at hl 1 rfl) ?_
  refine va_put (D := (dC, dI)) (ci := 4) (v := .int (nI h)) (ty := .int) (C := RX4) (T := TX4) (N := 13) hx hb hts inX4 tyX4 tyX4_ok nmX4 hown hK hP hD hS 0 rfl rfl 11 (by decide) (hts (.fieldLink RX4 39 "StoreSlopesModel" "priced" "I") (List.mem_of_getElem? (i := 1) rfl)) (fun _ h9 => h9) rfl (by decide +kernel) rfl rfl (Nat.le_of_ble_eq_true rfl) dX4_isBought_2 (fun H locs hP hD hS => ?_)
  have hP : va_P (dC, dI) vwCl [(m0, .inr (4, [.ref m1, .ref m2, .int (nI bk), .ref m3, .ref m4, .ref m5, .ref m6, .int sd, .ref m7, .ref m8, .int cl, .int (nI h), .int op])), (m1, .inl (km1, 93, .inl nw)), (m7, .inl (km7, 1525, .inl vl)), (m8, .inl (km8, 24, .inl pl))] H := hP
  have hD : va_D A [(m0, .inr (4, [.ref m1, .ref m2, .int (nI bk), .ref m3, .ref m4, .ref m5, .ref m6, .int sd, .ref m7, .ref m8, .int cl, .int (nI h), .int op])), (m1, .inl (km1, 93, .inl nw)), (m7, .inl (km7, 1525, .inl vl)), (m8, .inl (km8, 24, .inl pl))] := hD
  refine lv_aload_n hx hb dX4_isBought_5 rfl (lv_at hl 0 rfl) ?_
  refine lv_aload_n hx hb dX4_isBought_6 rfl (lv_at hl 0 rfl) ?_
  refine lv_iload_n hx hb dX4_isBought_7 rfl (lv_at hl 1 rfl) ?_
  have hPc := hP.sub (ws' := [(m0, .inr (4, [.ref m1, .ref m2, .int (nI bk), .ref m3, .ref m4, .ref m5, .ref m6, .int sd, .ref m7, .ref m8, .int cl, .int (nI h), .int op])), (m1, .inl (km1, 93, .inl nw))]) [0, 1] rfl
  have hKc := hK.sub (tys' := [(km1, .int)]) [0] rfl
  refine va_calli (va_runV (As := [.int (nI h)]) (rest := [.ref m0]) ⟨hx, hb, hml, hown, hts⟩ (c_X4_toldPrice l dC dI m0 m1 m2 m3 m4 m5 m6 m7 m8 km1 bk sd cl (nI h) op nw (nI h) (by first | assumption | omega) (by first | assumption | omega) ) (cwV 1 hts gX4_isBought_X4_toldPrice rfl rfl rfl (by decide +kernel) ⟨Nat.le_of_ble_eq_true rfl, Nat.le_of_ble_eq_true rfl⟩) ⟨fun a U g mk q => by obtain ⟨q0, qP, qK⟩ := q; exact ⟨q0, qP, va_K.moved (u := U) (U := U.calling g mk a) (Vm.Alike.refl U.vm) qK⟩, va_recv hKc hPc (ci := 4) (q0 := 0) rfl rfl, fun U hU hW => ⟨rfl, by rw [hU]; exact hPc, va_K.moved hW.alike hKc⟩⟩ rfl rfl hl.1 rfl (lv_room (Nat.le_of_ble_eq_true rfl)) dX4_isBought_8 ⟨Nat.le_of_ble_eq_true rfl, Nat.le_of_ble_eq_true rfl⟩) hS (fun q _ h => h.elim) (fun q h => h.elim) (fun r_1 u9 t9 H1 locs ht hvm hw hB hz1 hk1 hS => ?_)
  refine W.widen (k := 0) (n := 0) (Nat.le_of_ble_eq_true rfl) (Nat.le_of_ble_eq_true rfl) ?_
  have hP := hP.kept (H1 := H1) (fun k q hk => hk1 q.1 (hP k q hk).lt (fun h => h))
  clear hz1 hk1 hB ht hvm t9
  generalize H1 = H at hP hS ⊢
  have hP : va_P (dC, dI) vwCl [(m0, .inr (4, [.ref m1, .ref m2, .int (nI bk), .ref m3, .ref m4, .ref m5, .ref m6, .int sd, .ref m7, .ref m8, .int cl, .int (nI h), .int op])), (m1, .inl (km1, 93, .inl nw)), (m7, .inl (km7, 1525, .inl vl)), (m8, .inl (km8, 24, .inl pl))] H := hP
  clear hw
  refine lv_iload_n hx hb dX4_isBought_11 rfl (lv_at hl 2 rfl) ?_
  refine lv_iadd hx hb dX4_isBought_12 ?_
  refine tp_any (fun y_2 => ?_)
  refine va_put (D := (dC, dI)) (ci := 4) (v := .int y_2) (ty := .int) (C := RX4) (T := TX4) (N := 13) hx hb hts inX4 tyX4 tyX4_ok nmX4 hown hK hP hD hS 0 rfl rfl 12 (by decide) (hts (.fieldLink RX4 58 "StoreSlopesModel" "ownPrice" "I") (List.mem_of_getElem? (i := 2) rfl)) (fun _ h9 => h9) rfl (by decide +kernel) rfl rfl (Nat.le_of_ble_eq_true rfl) dX4_isBought_13 (fun H locs hP hD hS => ?_)
  have hP : va_P (dC, dI) vwCl [(m0, .inr (4, [.ref m1, .ref m2, .int (nI bk), .ref m3, .ref m4, .ref m5, .ref m6, .int sd, .ref m7, .ref m8, .int cl, .int (nI h), .int y_2])), (m1, .inl (km1, 93, .inl nw)), (m7, .inl (km7, 1525, .inl vl)), (m8, .inl (km8, 24, .inl pl))] H := hP
  have hD : va_D A [(m0, .inr (4, [.ref m1, .ref m2, .int (nI bk), .ref m3, .ref m4, .ref m5, .ref m6, .int sd, .ref m7, .ref m8, .int cl, .int (nI h), .int y_2])), (m1, .inl (km1, 93, .inl nw)), (m7, .inl (km7, 1525, .inl vl)), (m8, .inl (km8, 24, .inl pl))] := hD
  refine lv_aload_n hx hb dX4_isBought_16 rfl (lv_at hl 0 rfl) ?_
  have hPc := hP.sub (ws' := [(m0, .inr (4, [.ref m1, .ref m2, .int (nI bk), .ref m3, .ref m4, .ref m5, .ref m6, .int sd, .ref m7, .ref m8, .int cl, .int (nI h), .int y_2])), (m1, .inl (km1, 93, .inl nw)), (m7, .inl (km7, 1525, .inl vl)), (m8, .inl (km8, 24, .inl pl))]) [0, 1, 2, 3] rfl
  have hKc := hK.sub (tys' := [(km1, .int), (km7, .int), (km8, .int)]) [0, 1, 2] rfl
  have hDc := hD.sub (ws' := [(m0, .inr (4, [.ref m1, .ref m2, .int (nI bk), .ref m3, .ref m4, .ref m5, .ref m6, .int sd, .ref m7, .ref m8, .int cl, .int (nI h), .int y_2])), (m1, .inl (km1, 93, .inl nw)), (m7, .inl (km7, 1525, .inl vl)), (m8, .inl (km8, 24, .inl pl))]) [0, 1, 2, 3] (by decide) rfl
  have hFc := va_free (wc := [(m0, .inr (4, [.ref m1, .ref m2, .int (nI bk), .ref m3, .ref m4, .ref m5, .ref m6, .int sd, .ref m7, .ref m8, .int cl, .int (nI h), .int y_2])), (m1, .inl (km1, 93, .inl nw)), (m7, .inl (km7, 1525, .inl vl)), (m8, .inl (km8, 24, .inl pl))]) hD hS hA [0, 1, 2, 3] rfl
  refine va_calli (va_runV (As := []) (rest := []) ⟨hx, hb, hml, hown, hts⟩ (c_X4_isPlanned l dC dI m0 m1 m7 m8 m2 m3 m4 m5 m6 km1 km7 km8 H.size bk sd cl (nI h) y_2 nw vl pl  (by first | assumption | omega) (by first | assumption | omega) (by first | assumption | omega) ) (cwV 0 hts gX4_isBought_X4_isPlanned rfl rfl rfl (by decide +kernel) ⟨Nat.le_of_ble_eq_true rfl, Nat.le_of_ble_eq_true rfl⟩) ⟨fun a U g mk q => by obtain ⟨q0, q1, qP, qK, qD⟩ := q; exact ⟨q0, q1, qP, va_K.moved (u := U) (U := U.calling g mk a) (Vm.Alike.refl U.vm) qK, qD⟩, va_recv hKc hPc (ci := 4) (q0 := 0) rfl rfl, fun U hU hW => ⟨rfl, by rw [hU], by rw [hU]; exact hPc, va_K.moved hW.alike hKc, hDc.weaken (fun _ _ _ _ => trivial)⟩⟩ rfl rfl hl.1 rfl (lv_room (Nat.le_of_ble_eq_true rfl)) dX4_isBought_17 ⟨Nat.le_of_ble_eq_true rfl, Nat.le_of_ble_eq_true rfl⟩) hS (fun q _ h => hFc q h) hFc (fun r_3 u9 t9 H1 locs ht hvm hw hB hz1 hk1 hS => ?_)
  refine W.widen (k := 0) (n := 0) (Nat.le_of_ble_eq_true rfl) (Nat.le_of_ble_eq_true rfl) ?_
  obtain ⟨vl_4, pl_5, h_6, hP1, hK1, hD1⟩ := hB
  rw [ht] at hP1
  have hw := hw.symm
  subst hw
  obtain ⟨hP, hD⟩ := va_join (wr := []) (w1 := [(m0, .inr (4, [.ref m1, .ref m2, .int (nI bk), .ref m3, .ref m4, .ref m5, .ref m6, .int sd, .ref m7, .ref m8, .int cl, .int (nI h), .int y_2])), (m1, .inl (km1, 93, .inl nw)), (m7, .inl (km7, 1525, .inl vl_4)), (m8, .inl (km8, 24, .inl pl_5))]) hP hD [0, 1, 2, 3] [] rfl rfl (by decide) (by decide) hk1 hFc hP1 hD1
  clear hPc hDc hKc hFc hz1 hk1 ht hvm hP1 hK1 hD1 t9
  generalize H1 = H at hP hS ⊢
  have hP := hP.sub (ws' := [(m0, .inr (4, [.ref m1, .ref m2, .int (nI bk), .ref m3, .ref m4, .ref m5, .ref m6, .int sd, .ref m7, .ref m8, .int cl, .int (nI h), .int y_2])), (m1, .inl (km1, 93, .inl nw)), (m7, .inl (km7, 1525, .inl vl_4)), (m8, .inl (km8, 24, .inl pl_5))]) [0, 1, 2, 3] rfl
  have hD := hD.sub (ws' := [(m0, .inr (4, [.ref m1, .ref m2, .int (nI bk), .ref m3, .ref m4, .ref m5, .ref m6, .int sd, .ref m7, .ref m8, .int cl, .int (nI h), .int y_2])), (m1, .inl (km1, 93, .inl nw)), (m7, .inl (km7, 1525, .inl vl_4)), (m8, .inl (km8, 24, .inl pl_5))]) [0, 1, 2, 3] (by decide) rfl
  refine lv_if_eq (tgt := 41) hx hb dX4_isBought_20 (by decide) (fun c_20 => ?_) (fun c_20 => ?_)
  · refine lv_iconst (v := nI 0) hx hb dX4_isBought_41 (by decide) ?_
    refine lv_istore_n (lv' := [(3, .int (nI 0)), (0, .ref m0), (1, .int (nI h)), (2, .int mo)]) hx hb dX4_isBought_42 rfl hl (by decide) rfl (fun ls hl => ?_)
    refine lv_aload_n hx hb dX4_isBought_43 rfl (lv_at hl 1 rfl) ?_
    refine lv_iconst (v := (-1)) hx hb dX4_isBought_44 (by decide) ?_
    refine va_put (D := (dC, dI)) (ci := 4) (v := .int ((-1))) (ty := .int) (C := RX4) (T := TX4) (N := 13) hx hb hts inX4 tyX4 tyX4_ok nmX4 hown hK hP hD hS 0 rfl rfl 11 (by decide) (hts (.fieldLink RX4 39 "StoreSlopesModel" "priced" "I") (List.mem_of_getElem? (i := 1) rfl)) (fun _ h9 => h9) rfl (by decide +kernel) rfl rfl (Nat.le_of_ble_eq_true rfl) dX4_isBought_45 (fun H locs hP hD hS => ?_)
    have hP : va_P (dC, dI) vwCl [(m0, .inr (4, [.ref m1, .ref m2, .int (nI bk), .ref m3, .ref m4, .ref m5, .ref m6, .int sd, .ref m7, .ref m8, .int cl, .int ((-1)), .int y_2])), (m1, .inl (km1, 93, .inl nw)), (m7, .inl (km7, 1525, .inl vl_4)), (m8, .inl (km8, 24, .inl pl_5))] H := hP
    have hD : va_D A [(m0, .inr (4, [.ref m1, .ref m2, .int (nI bk), .ref m3, .ref m4, .ref m5, .ref m6, .int sd, .ref m7, .ref m8, .int cl, .int ((-1)), .int y_2])), (m1, .inl (km1, 93, .inl nw)), (m7, .inl (km7, 1525, .inl vl_4)), (m8, .inl (km8, 24, .inl pl_5))] := hD
    refine lv_iload_n hx hb dX4_isBought_48 rfl (lv_at hl 0 rfl) ?_
    subst hQe
    have hP9 := hP.sub (ws' := [(m0, .inr (4, [.ref m1, .ref m2, .int (nI bk), .ref m3, .ref m4, .ref m5, .ref m6, .int sd, .ref m7, .ref m8, .int cl, .int ((-1)), .int y_2])), (m1, .inl (km1, 93, .inl nw)), (m7, .inl (km7, 1525, .inl vl_4)), (m8, .inl (km8, 24, .inl pl_5))]) [0, 1, 2, 3] rfl
    have hD9 := hD.sub (ws' := [(m0, .inr (4, [.ref m1, .ref m2, .int (nI bk), .ref m3, .ref m4, .ref m5, .ref m6, .int sd, .ref m7, .ref m8, .int cl, .int ((-1)), .int y_2])), (m1, .inl (km1, 93, .inl nw)), (m7, .inl (km7, 1525, .inl vl_4)), (m8, .inl (km8, 24, .inl pl_5))]) [0, 1, 2, 3] (by decide) rfl
    have hK9 := hK.sub (tys' := [(km1, .int), (km7, .int), (km8, .int)]) [0, 1, 2] rfl
    subst hAe
    exact W.zret (v := (nI 0)) hx hb hr (by decide) (fun t ht hW => ⟨⟨_, _, rfl, rfl, vl_4, pl_5, ((-1)), y_2, (by first | assumption | omega), by rw [ht]; exact hP9, va_K.moved hW.alike hK9, hD9⟩, hS.F ht⟩) hS.2.2 dX4_isBought_49
  · refine lv_aload_n hx hb dX4_isBought_23 rfl (lv_at hl 0 rfl) ?_
    refine va_get (D := (dC, dI)) (ci := 4) (v := .ref m8) (C := RX4) (T := TX4) (N := 13) hx hb hts inX4 hown hK hP 0 rfl rfl 9 (by decide) (hts (.fieldLink RX4 32 "StoreSlopesModel" "plan" "[I") (List.mem_of_getElem? (i := 3) rfl)) (fun _ h9 => h9) rfl dX4_isBought_24 ?_
    refine lv_iload_n hx hb dX4_isBought_27 rfl (lv_at hl 1 rfl) ?_
    refine va_iald hx hb hK hP 3 2 rfl rfl (vp_in_nI (show h < 24 by omega) (by omega)) dX4_isBought_28 ?_
    obtain ⟨j_8, hj_8, ej_8⟩ := bdA_get (n := 60) (N := 24) (f := pl_5) (by assumption) (show h < 24 by omega) (by omega)
    refine tp_as ej_8 ?_
    refine lv_aload_n hx hb dX4_isBought_29 rfl (lv_at hl 0 rfl) ?_
    refine lv_iload_n hx hb dX4_isBought_30 rfl (lv_at hl 1 rfl) ?_
    have hPc := hP.sub (ws' := [(m0, .inr (4, [.ref m1, .ref m2, .int (nI bk), .ref m3, .ref m4, .ref m5, .ref m6, .int sd, .ref m7, .ref m8, .int cl, .int (nI h), .int y_2])), (m1, .inl (km1, 93, .inl nw)), (m8, .inl (km8, 24, .inl pl_5))]) [0, 1, 3] rfl
    have hKc := hK.sub (tys' := [(km1, .int), (km8, .int)]) [0, 2] rfl
    refine va_calli (va_runV (As := [.int (nI h)]) (rest := [.int (nI j_8)]) ⟨hx, hb, hml, hown, hts⟩ (c_X4_before l dC dI m0 m1 m8 m2 m3 m4 m5 m6 m7 km1 km8 bk sd cl (nI h) y_2 nw pl_5 h (by first | assumption | omega) (by first | assumption | omega) (by first | assumption | omega) (by first | assumption | omega) ⟨_, by omega, eov⟩) (cwV 1 hts gX4_isBought_X4_before rfl rfl rfl (by decide +kernel) ⟨Nat.le_of_ble_eq_true rfl, Nat.le_of_ble_eq_true rfl⟩) ⟨fun a U g mk q => by obtain ⟨q0, qP, qK⟩ := q; exact ⟨q0, qP, va_K.moved (u := U) (U := U.calling g mk a) (Vm.Alike.refl U.vm) qK⟩, va_recv hKc hPc (ci := 4) (q0 := 0) rfl rfl, fun U hU hW => ⟨rfl, by rw [hU]; exact hPc, va_K.moved hW.alike hKc⟩⟩ rfl rfl hl.1 rfl (lv_room (Nat.le_of_ble_eq_true rfl)) dX4_isBought_31 ⟨Nat.le_of_ble_eq_true rfl, Nat.le_of_ble_eq_true rfl⟩) hS (fun q _ h => h.elim) (fun q h => h.elim) (fun r_9 u9 t9 H1 locs ht hvm hw hB hz1 hk1 hS => ?_)
    refine W.widen (k := 0) (n := 0) (Nat.le_of_ble_eq_true rfl) (Nat.le_of_ble_eq_true rfl) ?_
    have hP := hP.kept (H1 := H1) (fun k q hk => hk1 q.1 (hP k q hk).lt (fun h => h))
    clear hz1 hk1 hB ht hvm t9
    generalize H1 = H at hP hS ⊢
    have hP : va_P (dC, dI) vwCl [(m0, .inr (4, [.ref m1, .ref m2, .int (nI bk), .ref m3, .ref m4, .ref m5, .ref m6, .int sd, .ref m7, .ref m8, .int cl, .int (nI h), .int y_2])), (m1, .inl (km1, 93, .inl nw)), (m7, .inl (km7, 1525, .inl vl_4)), (m8, .inl (km8, 24, .inl pl_5))] H := hP
    clear hw
    refine lv_icmp_le (tgt := 41) hx hb dX4_isBought_34 (by decide) (fun c_34 => ?_) (fun c_34 => ?_)
    · refine lv_iconst (v := nI 0) hx hb dX4_isBought_41 (by decide) ?_
      refine lv_istore_n (lv' := [(3, .int (nI 0)), (0, .ref m0), (1, .int (nI h)), (2, .int mo)]) hx hb dX4_isBought_42 rfl hl (by decide) rfl (fun ls hl => ?_)
      refine lv_aload_n hx hb dX4_isBought_43 rfl (lv_at hl 1 rfl) ?_
      refine lv_iconst (v := (-1)) hx hb dX4_isBought_44 (by decide) ?_
      refine va_put (D := (dC, dI)) (ci := 4) (v := .int ((-1))) (ty := .int) (C := RX4) (T := TX4) (N := 13) hx hb hts inX4 tyX4 tyX4_ok nmX4 hown hK hP hD hS 0 rfl rfl 11 (by decide) (hts (.fieldLink RX4 39 "StoreSlopesModel" "priced" "I") (List.mem_of_getElem? (i := 1) rfl)) (fun _ h9 => h9) rfl (by decide +kernel) rfl rfl (Nat.le_of_ble_eq_true rfl) dX4_isBought_45 (fun H locs hP hD hS => ?_)
      have hP : va_P (dC, dI) vwCl [(m0, .inr (4, [.ref m1, .ref m2, .int (nI bk), .ref m3, .ref m4, .ref m5, .ref m6, .int sd, .ref m7, .ref m8, .int cl, .int ((-1)), .int y_2])), (m1, .inl (km1, 93, .inl nw)), (m7, .inl (km7, 1525, .inl vl_4)), (m8, .inl (km8, 24, .inl pl_5))] H := hP
      have hD : va_D A [(m0, .inr (4, [.ref m1, .ref m2, .int (nI bk), .ref m3, .ref m4, .ref m5, .ref m6, .int sd, .ref m7, .ref m8, .int cl, .int ((-1)), .int y_2])), (m1, .inl (km1, 93, .inl nw)), (m7, .inl (km7, 1525, .inl vl_4)), (m8, .inl (km8, 24, .inl pl_5))] := hD
      refine lv_iload_n hx hb dX4_isBought_48 rfl (lv_at hl 0 rfl) ?_
      subst hQe
      have hP9 := hP.sub (ws' := [(m0, .inr (4, [.ref m1, .ref m2, .int (nI bk), .ref m3, .ref m4, .ref m5, .ref m6, .int sd, .ref m7, .ref m8, .int cl, .int ((-1)), .int y_2])), (m1, .inl (km1, 93, .inl nw)), (m7, .inl (km7, 1525, .inl vl_4)), (m8, .inl (km8, 24, .inl pl_5))]) [0, 1, 2, 3] rfl
      have hD9 := hD.sub (ws' := [(m0, .inr (4, [.ref m1, .ref m2, .int (nI bk), .ref m3, .ref m4, .ref m5, .ref m6, .int sd, .ref m7, .ref m8, .int cl, .int ((-1)), .int y_2])), (m1, .inl (km1, 93, .inl nw)), (m7, .inl (km7, 1525, .inl vl_4)), (m8, .inl (km8, 24, .inl pl_5))]) [0, 1, 2, 3] (by decide) rfl
      have hK9 := hK.sub (tys' := [(km1, .int), (km7, .int), (km8, .int)]) [0, 1, 2] rfl
      subst hAe
      exact W.zret (v := (nI 0)) hx hb hr (by decide) (fun t ht hW => ⟨⟨_, _, rfl, rfl, vl_4, pl_5, ((-1)), y_2, (by first | assumption | omega), by rw [ht]; exact hP9, va_K.moved hW.alike hK9, hD9⟩, hS.F ht⟩) hS.2.2 dX4_isBought_49
    · refine lv_iconst (v := nI 1) hx hb dX4_isBought_37 (by decide) ?_
      refine lv_goto (tgt := 42) hx hb dX4_isBought_38 (by decide) ?_
      refine lv_istore_n (lv' := [(3, .int (nI 1)), (0, .ref m0), (1, .int (nI h)), (2, .int mo)]) hx hb dX4_isBought_42 rfl hl (by decide) rfl (fun ls hl => ?_)
      refine lv_aload_n hx hb dX4_isBought_43 rfl (lv_at hl 1 rfl) ?_
      refine lv_iconst (v := (-1)) hx hb dX4_isBought_44 (by decide) ?_
      refine va_put (D := (dC, dI)) (ci := 4) (v := .int ((-1))) (ty := .int) (C := RX4) (T := TX4) (N := 13) hx hb hts inX4 tyX4 tyX4_ok nmX4 hown hK hP hD hS 0 rfl rfl 11 (by decide) (hts (.fieldLink RX4 39 "StoreSlopesModel" "priced" "I") (List.mem_of_getElem? (i := 1) rfl)) (fun _ h9 => h9) rfl (by decide +kernel) rfl rfl (Nat.le_of_ble_eq_true rfl) dX4_isBought_45 (fun H locs hP hD hS => ?_)
      have hP : va_P (dC, dI) vwCl [(m0, .inr (4, [.ref m1, .ref m2, .int (nI bk), .ref m3, .ref m4, .ref m5, .ref m6, .int sd, .ref m7, .ref m8, .int cl, .int ((-1)), .int y_2])), (m1, .inl (km1, 93, .inl nw)), (m7, .inl (km7, 1525, .inl vl_4)), (m8, .inl (km8, 24, .inl pl_5))] H := hP
      have hD : va_D A [(m0, .inr (4, [.ref m1, .ref m2, .int (nI bk), .ref m3, .ref m4, .ref m5, .ref m6, .int sd, .ref m7, .ref m8, .int cl, .int ((-1)), .int y_2])), (m1, .inl (km1, 93, .inl nw)), (m7, .inl (km7, 1525, .inl vl_4)), (m8, .inl (km8, 24, .inl pl_5))] := hD
      refine lv_iload_n hx hb dX4_isBought_48 rfl (lv_at hl 0 rfl) ?_
      subst hQe
      have hP9 := hP.sub (ws' := [(m0, .inr (4, [.ref m1, .ref m2, .int (nI bk), .ref m3, .ref m4, .ref m5, .ref m6, .int sd, .ref m7, .ref m8, .int cl, .int ((-1)), .int y_2])), (m1, .inl (km1, 93, .inl nw)), (m7, .inl (km7, 1525, .inl vl_4)), (m8, .inl (km8, 24, .inl pl_5))]) [0, 1, 2, 3] rfl
      have hD9 := hD.sub (ws' := [(m0, .inr (4, [.ref m1, .ref m2, .int (nI bk), .ref m3, .ref m4, .ref m5, .ref m6, .int sd, .ref m7, .ref m8, .int cl, .int ((-1)), .int y_2])), (m1, .inl (km1, 93, .inl nw)), (m7, .inl (km7, 1525, .inl vl_4)), (m8, .inl (km8, 24, .inl pl_5))]) [0, 1, 2, 3] (by decide) rfl
      have hK9 := hK.sub (tys' := [(km1, .int), (km7, .int), (km8, .int)]) [0, 1, 2] rfl
      subst hAe
      exact W.zret (v := (nI 1)) hx hb hr (by decide) (fun t ht hW => ⟨⟨_, _, rfl, rfl, vl_4, pl_5, ((-1)), y_2, (by first | assumption | omega), by rw [ht]; exact hP9, va_K.moved hW.alike hK9, hD9⟩, hS.F ht⟩) hS.2.2 dX4_isBought_49
set_option maxHeartbeats 4000000 in
set_option maxRecDepth 100000 in
theorem c_X4_dearOf (l : Launch) (dC : Nat → ClassId) (dI : Nat → Nat → Nat) (m0 m1 m7 m8 m2 m3 m4 m5 m6 : Nat) (km1 km7 km8 : ClassId) (sz : Nat) (bk : Nat) (sd : Int32) (cl : Int32) (pc : Int32) (op : Int32) (nw : Nat → Int32) (vl : Nat → Int32) (pl : Nat → Int32) (h : Nat) (i0 : bk ≤ 40) (i1 : okN nw) (i2 : bdA 60 24 pl) (g0 : h < 24) (g1 : ∃ j : Nat, j ≤ h ∧ nw 0 = nI j) : Met l yX4_dearOf wsX4_dearOf ({ frames := 9, cells := 0, slots := 0, locals := 209 }) (va_Pc [.ref m0, .int (nI h)] (fun U => U.heap.size = sz ∧ va_P (dC, dI) vwCl [(m0, .inr (4, [.ref m1, .ref m2, .int (nI bk), .ref m3, .ref m4, .ref m5, .ref m6, .int sd, .ref m7, .ref m8, .int cl, .int pc, .int op])), (m1, .inl (km1, 93, .inl nw)), (m7, .inl (km7, 1525, .inl vl)), (m8, .inl (km8, 24, .inl pl))] U.heap ∧ va_K (dC, dI) vwCl [(km1, .int), (km7, .int), (km8, .int)] U ∧ va_D (fun _ => True) [(m0, .inr (4, [.ref m1, .ref m2, .int (nI bk), .ref m3, .ref m4, .ref m5, .ref m6, .int sd, .ref m7, .ref m8, .int cl, .int pc, .int op])), (m1, .inl (km1, 93, .inl nw)), (m7, .inl (km7, 1525, .inl vl)), (m8, .inl (km8, 24, .inl pl))])) (va_Qi (fun (r u : Int32) => u = r) (fun r t => ∃ (vl' : Nat → Int32) (pl' : Nat → Int32) (pc' : Int32) (op' : Int32), bdA 60 24 pl' ∧ va_P (dC, dI) vwCl [(m0, .inr (4, [.ref m1, .ref m2, .int (nI bk), .ref m3, .ref m4, .ref m5, .ref m6, .int sd, .ref m7, .ref m8, .int cl, .int pc', .int op'])), (m1, .inl (km1, 93, .inl nw)), (m7, .inl (km7, 1525, .inl vl')), (m8, .inl (km8, 24, .inl pl'))] t.heap ∧ va_K (dC, dI) vwCl [(km1, .int), (km7, .int), (km8, .int)] t ∧ va_D (va_A [(m0, .inr (4, [.ref m1, .ref m2, .int (nI bk), .ref m3, .ref m4, .ref m5, .ref m6, .int sd, .ref m7, .ref m8, .int cl, .int pc, .int op])), (m1, .inl (km1, 93, .inl nw)), (m7, .inl (km7, 1525, .inl vl)), (m8, .inl (km8, 24, .inl pl))] sz) [(m0, .inr (4, [.ref m1, .ref m2, .int (nI bk), .ref m3, .ref m4, .ref m5, .ref m6, .int sd, .ref m7, .ref m8, .int cl, .int pc', .int op'])), (m1, .inl (km1, 93, .inl nw)), (m7, .inl (km7, 1525, .inl vl')), (m8, .inl (km8, 24, .inl pl'))]) (va_A [(m0, .inr (4, [.ref m1, .ref m2, .int (nI bk), .ref m3, .ref m4, .ref m5, .ref m6, .int sd, .ref m7, .ref m8, .int cl, .int pc, .int op])), (m1, .inl (km1, 93, .inl nw)), (m7, .inl (km7, 1525, .inl vl)), (m8, .inl (km8, 24, .inl pl))] sz)) 0 0 (va_A [(m0, .inr (4, [.ref m1, .ref m2, .int (nI bk), .ref m3, .ref m4, .ref m5, .ref m6, .int sd, .ref m7, .ref m8, .int cl, .int pc, .int op])), (m1, .inl (km1, 93, .inl nw)), (m7, .inl (km7, 1525, .inl vl)), (m8, .inl (km8, 24, .inl pl))] sz) := by
  refine Met.ofW (cc := cX4_dearOf) (maxL := 5) (ret := (some .int)) (by decide) rfl ?_
  intro p e s m args below meth c s₁ B hml hv
  obtain ⟨rfl, hsz, hP, hK, hD0⟩ := hv
  have hx := B.exec
  have hb := B.bytes
  have hr := B.returns
  have hts := atoms_spec (ws := wsX4_dearOf) B.pre
  have hown : s.vm.findClass RX4 = some m.cls := findClass_of_methodNamed B.named
  have hlocks := B.notSynchronized
  have inX4 : ∀ w ∈ wsX40, w ∈ wsX4_dearOf := fun _ h => List.mem_cons_of_mem _ (List.mem_append_right _ h)
  subst hsz
  have hD := hD0.self (sz := s.heap.size)
  generalize hAe : va_A [(m0, .inr (4, [.ref m1, .ref m2, .int (nI bk), .ref m3, .ref m4, .ref m5, .ref m6, .int sd, .ref m7, .ref m8, .int cl, .int pc, .int op])), (m1, .inl (km1, 93, .inl nw)), (m7, .inl (km7, 1525, .inl vl)), (m8, .inl (km8, 24, .inl pl))] s.heap.size = A at hD ⊢
  have hA : ∀ q : Nat, s.heap.size ≤ q → A q := fun q h => by rw [← hAe]; exact Or.inr h
  have hS : va_S A s.heap s.heap [] := va_S.rf
  have hl := lv_entry ([.ref m0, .int (nI h)]) (n := 5) (Nat.le_of_ble_eq_true rfl)
  rw [lg_entry_eq]
  generalize (lg_sl ([.ref m0, .int (nI h)]) ++ List.replicate (5 - (lg_sl ([.ref m0, .int (nI h)])).length) Slot.unset).toArray = ls at hl ⊢
  generalize hQe : MQ below _ _ s 0 0 _ = Q
  generalize ([.ref m0, .int (nI h)] : List Value).toArray = args at hts hQe ⊢
  have hl : lv_has ls 5 [(0, .ref m0), (1, .int (nI h))] := hl
  obtain ⟨ov, hov, eov⟩ := g1
  refine lv_iconst (v := nI 0) hx hb dX4_dearOf_0 (by decide) ?_
  refine lv_istore_n (lv' := [(2, .int (nI 0)), (0, .ref m0), (1, .int (nI h))]) hx hb dX4_dearOf_1 rfl hl (by decide) rfl (fun ls hl => ?_)
  refine lv_sipush (v := nI 1000) hx hb dX4_dearOf_2 (by decide) ?_
  refine lv_istore_n (lv' := [(3, .int (nI 1000)), (2, .int (nI 0)), (0, .ref m0), (1, .int (nI h))]) hx hb dX4_dearOf_5 rfl hl (by decide) rfl (fun ls hl => ?_)
  have L6 : ∀ (n : Nat) (lo : Nat) (up : Nat) (vlv : Nat → Int32) (plv : Nat → Int32) (pcv : Int32) (opv : Int32) (H : Heap) (locs : List Loc) (ls : Array Slot), lo ≤ 1000 → up ≤ 1000 → bdA 60 24 plv → up - lo < n → va_P (dC, dI) vwCl [(m0, .inr (4, [.ref m1, .ref m2, .int (nI bk), .ref m3, .ref m4, .ref m5, .ref m6, .int sd, .ref m7, .ref m8, .int cl, .int pcv, .int opv])), (m1, .inl (km1, 93, .inl nw)), (m7, .inl (km7, 1525, .inl vlv)), (m8, .inl (km8, 24, .inl plv))] H → va_D A [(m0, .inr (4, [.ref m1, .ref m2, .int (nI bk), .ref m3, .ref m4, .ref m5, .ref m6, .int sd, .ref m7, .ref m8, .int cl, .int pcv, .int opv])), (m1, .inl (km1, 93, .inl nw)), (m7, .inl (km7, 1525, .inl vlv)), (m8, .inl (km8, 24, .inl plv))] → va_S A s.heap H locs → lv_has ls 5 [(0, .ref m0), (1, .int (nI h)), (2, .int (nI lo)), (3, .int (nI up))] → W p l e (headSpec wsX4_dearOf { frames := 9, cells := 0, slots := 0, locals := 209 }).room s m args below meth c H locs 0 0 Q (F0 m 6 ls []) := by
    intro n
    induction n with
    | zero => intro lo up vlv plv pcv opv H locs ls hL6_0 hL6_1 hL6_2 hn; exact absurd hn (Nat.not_lt_zero _)
    | succ n ih6 =>
      intro lo up vlv plv pcv opv H locs ls hL6_0 hL6_1 hL6_2 hn hP hD hS hl
      refine lv_iload_n hx hb dX4_dearOf_6 rfl (lv_at hl 2 rfl) ?_
      refine lv_iload_n hx hb dX4_dearOf_7 rfl (lv_at hl 3 rfl) ?_
      refine lv_icmp_ge (tgt := 42) hx hb dX4_dearOf_8 (by decide) (fun c_8 => ?_) (fun c_8 => ?_)
      · have c_8 := (nI_leI (by omega : up < 2 ^ 31) (by omega : lo < 2 ^ 31)).mp c_8
        refine lv_iload_n hx hb dX4_dearOf_42 rfl (lv_at hl 2 rfl) ?_
        refine lv_sipush (v := nI 999) hx hb dX4_dearOf_43 (by decide) ?_
        refine lv_icmp_le (tgt := 53) hx hb dX4_dearOf_46 (by decide) (fun c_46 => ?_) (fun c_46 => ?_)
        · have c_46 := (nI_leI (by omega : lo < 2 ^ 31) (by omega : 999 < 2 ^ 31)).mp c_46
          refine lv_iload_n hx hb dX4_dearOf_53 rfl (lv_at hl 2 rfl) ?_
          subst hQe
          have hP9 := hP.sub (ws' := [(m0, .inr (4, [.ref m1, .ref m2, .int (nI bk), .ref m3, .ref m4, .ref m5, .ref m6, .int sd, .ref m7, .ref m8, .int cl, .int pcv, .int opv])), (m1, .inl (km1, 93, .inl nw)), (m7, .inl (km7, 1525, .inl vlv)), (m8, .inl (km8, 24, .inl plv))]) [0, 1, 2, 3] rfl
          have hD9 := hD.sub (ws' := [(m0, .inr (4, [.ref m1, .ref m2, .int (nI bk), .ref m3, .ref m4, .ref m5, .ref m6, .int sd, .ref m7, .ref m8, .int cl, .int pcv, .int opv])), (m1, .inl (km1, 93, .inl nw)), (m7, .inl (km7, 1525, .inl vlv)), (m8, .inl (km8, 24, .inl plv))]) [0, 1, 2, 3] (by decide) rfl
          have hK9 := hK.sub (tys' := [(km1, .int), (km7, .int), (km8, .int)]) [0, 1, 2] rfl
          subst hAe
          exact W.iret (v := (nI lo)) hx hb hr (fun t ht hW => ⟨⟨_, _, rfl, rfl, vlv, plv, pcv, opv, (by first | assumption | omega), by rw [ht]; exact hP9, va_K.moved hW.alike hK9, hD9⟩, hS.F ht⟩) hS.2.2 dX4_dearOf_54
        · have c_46 := (not_congr (nI_leI (by omega : lo < 2 ^ 31) (by omega : 999 < 2 ^ 31))).mp c_46
          refine lv_iconst (v := (-1)) hx hb dX4_dearOf_49 (by decide) ?_
          refine lv_goto (tgt := 54) hx hb dX4_dearOf_50 (by decide) ?_
          subst hQe
          have hP9 := hP.sub (ws' := [(m0, .inr (4, [.ref m1, .ref m2, .int (nI bk), .ref m3, .ref m4, .ref m5, .ref m6, .int sd, .ref m7, .ref m8, .int cl, .int pcv, .int opv])), (m1, .inl (km1, 93, .inl nw)), (m7, .inl (km7, 1525, .inl vlv)), (m8, .inl (km8, 24, .inl plv))]) [0, 1, 2, 3] rfl
          have hD9 := hD.sub (ws' := [(m0, .inr (4, [.ref m1, .ref m2, .int (nI bk), .ref m3, .ref m4, .ref m5, .ref m6, .int sd, .ref m7, .ref m8, .int cl, .int pcv, .int opv])), (m1, .inl (km1, 93, .inl nw)), (m7, .inl (km7, 1525, .inl vlv)), (m8, .inl (km8, 24, .inl plv))]) [0, 1, 2, 3] (by decide) rfl
          have hK9 := hK.sub (tys' := [(km1, .int), (km7, .int), (km8, .int)]) [0, 1, 2] rfl
          subst hAe
          exact W.iret (v := ((-1))) hx hb hr (fun t ht hW => ⟨⟨_, _, rfl, rfl, vlv, plv, pcv, opv, (by first | assumption | omega), by rw [ht]; exact hP9, va_K.moved hW.alike hK9, hD9⟩, hS.F ht⟩) hS.2.2 dX4_dearOf_54
      · have c_8 := (not_congr (nI_leI (by omega : up < 2 ^ 31) (by omega : lo < 2 ^ 31))).mp c_8
        refine lv_iload_n hx hb dX4_dearOf_11 rfl (lv_at hl 2 rfl) ?_
        refine lv_iload_n hx hb dX4_dearOf_12 rfl (lv_at hl 3 rfl) ?_
        refine lv_iadd hx hb dX4_dearOf_13 ?_
        refine tp_as (nI_add lo up) ?_
        refine lv_iconst (v := nI 2) hx hb dX4_dearOf_14 (by decide) ?_
        refine lv_idiv hx hb dX4_dearOf_15 (nI_ne0 (by omega) (by omega)) ?_
        refine tp_as (pk_div (a := lo + up) (d := 2) (by omega) (by omega) (by omega)) ?_
        refine lv_istore (lv' := [(4, .int (nI ((lo + up) / 2))), (0, .ref m0), (1, .int (nI h)), (2, .int (nI lo)), (3, .int (nI up))]) hx hb dX4_dearOf_16 hl (by decide) rfl (fun ls hl => ?_)
        refine lv_aload_n hx hb dX4_dearOf_18 rfl (lv_at hl 1 rfl) ?_
        refine lv_iload_n hx hb dX4_dearOf_19 rfl (lv_at hl 2 rfl) ?_
        refine lv_iload hx hb dX4_dearOf_20 (lv_at hl 0 rfl) ?_
        have hPc := hP.sub (ws' := [(m0, .inr (4, [.ref m1, .ref m2, .int (nI bk), .ref m3, .ref m4, .ref m5, .ref m6, .int sd, .ref m7, .ref m8, .int cl, .int pcv, .int opv])), (m1, .inl (km1, 93, .inl nw)), (m7, .inl (km7, 1525, .inl vlv)), (m8, .inl (km8, 24, .inl plv))]) [0, 1, 2, 3] rfl
        have hKc := hK.sub (tys' := [(km1, .int), (km7, .int), (km8, .int)]) [0, 1, 2] rfl
        have hDc := hD.sub (ws' := [(m0, .inr (4, [.ref m1, .ref m2, .int (nI bk), .ref m3, .ref m4, .ref m5, .ref m6, .int sd, .ref m7, .ref m8, .int cl, .int pcv, .int opv])), (m1, .inl (km1, 93, .inl nw)), (m7, .inl (km7, 1525, .inl vlv)), (m8, .inl (km8, 24, .inl plv))]) [0, 1, 2, 3] (by decide) rfl
        have hFc := va_free (wc := [(m0, .inr (4, [.ref m1, .ref m2, .int (nI bk), .ref m3, .ref m4, .ref m5, .ref m6, .int sd, .ref m7, .ref m8, .int cl, .int pcv, .int opv])), (m1, .inl (km1, 93, .inl nw)), (m7, .inl (km7, 1525, .inl vlv)), (m8, .inl (km8, 24, .inl plv))]) hD hS hA [0, 1, 2, 3] rfl
        refine va_calli (va_runV (As := [.int (nI h), .int (nI ((lo + up) / 2))]) (rest := []) ⟨hx, hb, hml, hown, hts⟩ (c_X4_isBought l dC dI m0 m1 m7 m8 m2 m3 m4 m5 m6 km1 km7 km8 H.size bk sd cl pcv opv nw vlv plv h (nI ((lo + up) / 2)) (by first | assumption | omega) (by first | assumption | omega) (by first | assumption | omega) (by first | assumption | omega) ⟨_, by omega, eov⟩) (cwV 2 hts gX4_dearOf_X4_isBought rfl rfl rfl (by decide +kernel) ⟨Nat.le_of_ble_eq_true rfl, Nat.le_of_ble_eq_true rfl⟩) ⟨fun a U g mk q => by obtain ⟨q0, q1, qP, qK, qD⟩ := q; exact ⟨q0, q1, qP, va_K.moved (u := U) (U := U.calling g mk a) (Vm.Alike.refl U.vm) qK, qD⟩, va_recv hKc hPc (ci := 4) (q0 := 0) rfl rfl, fun U hU hW => ⟨rfl, by rw [hU], by rw [hU]; exact hPc, va_K.moved hW.alike hKc, hDc.weaken (fun _ _ _ _ => trivial)⟩⟩ rfl rfl hl.1 rfl (lv_room (Nat.le_of_ble_eq_true rfl)) dX4_dearOf_22 ⟨Nat.le_of_ble_eq_true rfl, Nat.le_of_ble_eq_true rfl⟩) hS (fun q _ h => hFc q h) hFc (fun r_1 u9 t9 H1 locs ht hvm hw hB hz1 hk1 hS => ?_)
        refine W.widen (k := 0) (n := 0) (Nat.le_of_ble_eq_true rfl) (Nat.le_of_ble_eq_true rfl) ?_
        obtain ⟨vl_2, pl_3, pc_4, op_5, h_6, hP1, hK1, hD1⟩ := hB
        rw [ht] at hP1
        have hw := hw.symm
        subst hw
        obtain ⟨hP, hD⟩ := va_join (wr := []) (w1 := [(m0, .inr (4, [.ref m1, .ref m2, .int (nI bk), .ref m3, .ref m4, .ref m5, .ref m6, .int sd, .ref m7, .ref m8, .int cl, .int pc_4, .int op_5])), (m1, .inl (km1, 93, .inl nw)), (m7, .inl (km7, 1525, .inl vl_2)), (m8, .inl (km8, 24, .inl pl_3))]) hP hD [0, 1, 2, 3] [] rfl rfl (by decide) (by decide) hk1 hFc hP1 hD1
        clear hPc hDc hKc hFc hz1 hk1 ht hvm hP1 hK1 hD1 t9
        generalize H1 = H at hP hS ⊢
        have hP := hP.sub (ws' := [(m0, .inr (4, [.ref m1, .ref m2, .int (nI bk), .ref m3, .ref m4, .ref m5, .ref m6, .int sd, .ref m7, .ref m8, .int cl, .int pc_4, .int op_5])), (m1, .inl (km1, 93, .inl nw)), (m7, .inl (km7, 1525, .inl vl_2)), (m8, .inl (km8, 24, .inl pl_3))]) [0, 1, 2, 3] rfl
        have hD := hD.sub (ws' := [(m0, .inr (4, [.ref m1, .ref m2, .int (nI bk), .ref m3, .ref m4, .ref m5, .ref m6, .int sd, .ref m7, .ref m8, .int cl, .int pc_4, .int op_5])), (m1, .inl (km1, 93, .inl nw)), (m7, .inl (km7, 1525, .inl vl_2)), (m8, .inl (km8, 24, .inl pl_3))]) [0, 1, 2, 3] (by decide) rfl
        refine lv_if_eq (tgt := 36) hx hb dX4_dearOf_25 (by decide) (fun c_25 => ?_) (fun c_25 => ?_)
        · refine lv_iload hx hb dX4_dearOf_36 (lv_at hl 0 rfl) ?_
          refine lv_istore_n (lv' := [(3, .int (nI ((lo + up) / 2))), (4, .int (nI ((lo + up) / 2))), (0, .ref m0), (1, .int (nI h)), (2, .int (nI lo))]) hx hb dX4_dearOf_38 rfl hl (by decide) rfl (fun ls hl => ?_)
          refine lv_goto (tgt := 6) hx hb dX4_dearOf_39 (by decide) ?_
          exact ih6 lo ((lo + up) / 2) vl_2 pl_3 pc_4 op_5 _ _ _ (by first | assumption | omega) (by first | assumption | omega) (by first | assumption | omega) (by omega) hP hD hS (lv_sub hl [2, 3, 4, 0] rfl)
        · refine lv_iload hx hb dX4_dearOf_28 (lv_at hl 0 rfl) ?_
          refine lv_iconst (v := nI 1) hx hb dX4_dearOf_30 (by decide) ?_
          refine lv_iadd hx hb dX4_dearOf_31 ?_
          refine tp_as (nI_add ((lo + up) / 2) 1) ?_
          refine lv_istore_n (lv' := [(2, .int (nI (((lo + up) / 2) + 1))), (4, .int (nI ((lo + up) / 2))), (0, .ref m0), (1, .int (nI h)), (3, .int (nI up))]) hx hb dX4_dearOf_32 rfl hl (by decide) rfl (fun ls hl => ?_)
          refine lv_goto (tgt := 39) hx hb dX4_dearOf_33 (by decide) ?_
          refine lv_goto (tgt := 6) hx hb dX4_dearOf_39 (by decide) ?_
          exact ih6 (((lo + up) / 2) + 1) up vl_2 pl_3 pc_4 op_5 _ _ _ (by first | assumption | omega) (by first | assumption | omega) (by first | assumption | omega) (by omega) hP hD hS (lv_sub hl [2, 3, 0, 4] rfl)
  exact L6 (1000 - 0 + 1) 0 1000 vl pl pc op _ _ _ (by first | assumption | omega) (by first | assumption | omega) (by first | assumption | omega) (Nat.lt_succ_self _) hP hD hS (lv_sub hl [2, 3, 1, 0] rfl)
set_option maxHeartbeats 4000000 in
set_option maxRecDepth 100000 in
theorem c_X4_bendsOf (l : Launch) (dC : Nat → ClassId) (dI : Nat → Nat → Nat) (m0 m1 m7 m2 m3 m4 m5 m6 m8 : Nat) (km1 km7 : ClassId) (sz : Nat) (bk : Nat) (sd : Int32) (cl : Int32) (pc : Int32) (op : Int32) (nw : Nat → Int32) (vl : Nat → Int32) (h : Nat) (i0 : bk ≤ 40) (i1 : okN nw) (g0 : h < 24) : Met l yX4_bendsOf wsX4_bendsOf ({ frames := 6, cells := 0, slots := 0, locals := 142 }) (va_Pc [.ref m0, .int (nI h)] (fun U => U.heap.size = sz ∧ va_P (dC, dI) vwCl [(m0, .inr (4, [.ref m1, .ref m2, .int (nI bk), .ref m3, .ref m4, .ref m5, .ref m6, .int sd, .ref m7, .ref m8, .int cl, .int pc, .int op])), (m1, .inl (km1, 93, .inl nw)), (m7, .inl (km7, 1525, .inl vl))] U.heap ∧ va_K (dC, dI) vwCl [(km1, .int), (km7, .int)] U ∧ va_D (fun _ => True) [(m0, .inr (4, [.ref m1, .ref m2, .int (nI bk), .ref m3, .ref m4, .ref m5, .ref m6, .int sd, .ref m7, .ref m8, .int cl, .int pc, .int op])), (m1, .inl (km1, 93, .inl nw)), (m7, .inl (km7, 1525, .inl vl))])) (va_Qi (fun (r u : Int32) => u = r) (fun r t => ∃ (vl' : Nat → Int32), va_P (dC, dI) vwCl [(m0, .inr (4, [.ref m1, .ref m2, .int (nI bk), .ref m3, .ref m4, .ref m5, .ref m6, .int sd, .ref m7, .ref m8, .int cl, .int pc, .int op])), (m1, .inl (km1, 93, .inl nw)), (m7, .inl (km7, 1525, .inl vl'))] t.heap ∧ va_K (dC, dI) vwCl [(km1, .int), (km7, .int)] t ∧ va_D (va_A [(m0, .inr (4, [.ref m1, .ref m2, .int (nI bk), .ref m3, .ref m4, .ref m5, .ref m6, .int sd, .ref m7, .ref m8, .int cl, .int pc, .int op])), (m1, .inl (km1, 93, .inl nw)), (m7, .inl (km7, 1525, .inl vl))] sz) [(m0, .inr (4, [.ref m1, .ref m2, .int (nI bk), .ref m3, .ref m4, .ref m5, .ref m6, .int sd, .ref m7, .ref m8, .int cl, .int pc, .int op])), (m1, .inl (km1, 93, .inl nw)), (m7, .inl (km7, 1525, .inl vl'))]) (va_A [(m0, .inr (4, [.ref m1, .ref m2, .int (nI bk), .ref m3, .ref m4, .ref m5, .ref m6, .int sd, .ref m7, .ref m8, .int cl, .int pc, .int op])), (m1, .inl (km1, 93, .inl nw)), (m7, .inl (km7, 1525, .inl vl))] sz)) 0 0 (va_A [(m0, .inr (4, [.ref m1, .ref m2, .int (nI bk), .ref m3, .ref m4, .ref m5, .ref m6, .int sd, .ref m7, .ref m8, .int cl, .int pc, .int op])), (m1, .inl (km1, 93, .inl nw)), (m7, .inl (km7, 1525, .inl vl))] sz) := by
  refine Met.ofW (cc := cX4_bendsOf) (maxL := 7) (ret := (some .int)) (by decide) rfl ?_
  intro p e s m args below meth c s₁ B hml hv
  obtain ⟨rfl, hsz, hP, hK, hD0⟩ := hv
  have hx := B.exec
  have hb := B.bytes
  have hr := B.returns
  have hts := atoms_spec (ws := wsX4_bendsOf) B.pre
  have hown : s.vm.findClass RX4 = some m.cls := findClass_of_methodNamed B.named
  have hlocks := B.notSynchronized
  have inX4 : ∀ w ∈ wsX40, w ∈ wsX4_bendsOf := fun _ h => List.mem_cons_of_mem _ (List.mem_append_right _ h)
  subst hsz
  have hD := hD0.self (sz := s.heap.size)
  generalize hAe : va_A [(m0, .inr (4, [.ref m1, .ref m2, .int (nI bk), .ref m3, .ref m4, .ref m5, .ref m6, .int sd, .ref m7, .ref m8, .int cl, .int pc, .int op])), (m1, .inl (km1, 93, .inl nw)), (m7, .inl (km7, 1525, .inl vl))] s.heap.size = A at hD ⊢
  have hA : ∀ q : Nat, s.heap.size ≤ q → A q := fun q h => by rw [← hAe]; exact Or.inr h
  have hS : va_S A s.heap s.heap [] := va_S.rf
  have hl := lv_entry ([.ref m0, .int (nI h)]) (n := 7) (Nat.le_of_ble_eq_true rfl)
  rw [lg_entry_eq]
  generalize (lg_sl ([.ref m0, .int (nI h)]) ++ List.replicate (7 - (lg_sl ([.ref m0, .int (nI h)])).length) Slot.unset).toArray = ls at hl ⊢
  generalize hQe : MQ below _ _ s 0 0 _ = Q
  generalize ([.ref m0, .int (nI h)] : List Value).toArray = args at hts hQe ⊢
  have hl : lv_has ls 7 [(0, .ref m0), (1, .int (nI h))] := hl
  refine lv_aload_n hx hb dX4_bendsOf_0 rfl (lv_at hl 0 rfl) ?_
  have hPc := hP.sub (ws' := [(m0, .inr (4, [.ref m1, .ref m2, .int (nI bk), .ref m3, .ref m4, .ref m5, .ref m6, .int sd, .ref m7, .ref m8, .int cl, .int pc, .int op])), (m1, .inl (km1, 93, .inl nw)), (m7, .inl (km7, 1525, .inl vl))]) [0, 1, 2] rfl
  have hKc := hK.sub (tys' := [(km1, .int), (km7, .int)]) [0, 1] rfl
  have hDc := hD.sub (ws' := [(m0, .inr (4, [.ref m1, .ref m2, .int (nI bk), .ref m3, .ref m4, .ref m5, .ref m6, .int sd, .ref m7, .ref m8, .int cl, .int pc, .int op])), (m1, .inl (km1, 93, .inl nw)), (m7, .inl (km7, 1525, .inl vl))]) [0, 1, 2] (by decide) rfl
  have hFc := va_free (wc := [(m0, .inr (4, [.ref m1, .ref m2, .int (nI bk), .ref m3, .ref m4, .ref m5, .ref m6, .int sd, .ref m7, .ref m8, .int cl, .int pc, .int op])), (m1, .inl (km1, 93, .inl nw)), (m7, .inl (km7, 1525, .inl vl))]) hD hS hA [0, 1, 2] rfl
  refine va_callv (va_runV (As := []) (rest := []) ⟨hx, hb, hml, hown, hts⟩ (c_X4_lay l dC dI m0 m1 m7 m2 m3 m4 m5 m6 m8 km1 km7 s.heap.size bk sd cl pc op nw vl  (by first | assumption | omega) (by first | assumption | omega) ) (cwV 0 hts gX4_bendsOf_X4_lay rfl rfl rfl (by decide +kernel) ⟨Nat.le_of_ble_eq_true rfl, Nat.le_of_ble_eq_true rfl⟩) ⟨fun a U g mk q => by obtain ⟨q0, q1, qP, qK, qD⟩ := q; exact ⟨q0, q1, qP, va_K.moved (u := U) (U := U.calling g mk a) (Vm.Alike.refl U.vm) qK, qD⟩, va_recv hKc hPc (ci := 4) (q0 := 0) rfl rfl, fun U hU hW => ⟨rfl, by rw [hU], by rw [hU]; exact hPc, va_K.moved hW.alike hKc, hDc.weaken (fun _ _ _ _ => trivial)⟩⟩ rfl rfl hl.1 rfl (lv_room (Nat.le_of_ble_eq_true rfl)) dX4_bendsOf_1 ⟨Nat.le_of_ble_eq_true rfl, Nat.le_of_ble_eq_true rfl⟩) hS (fun q _ h => hFc q h) hFc (fun u9 t9 H1 locs ht hvm hw hB hz1 hk1 hS => ?_)
  refine W.widen (k := 0) (n := 0) (Nat.le_of_ble_eq_true rfl) (Nat.le_of_ble_eq_true rfl) ?_
  obtain ⟨⟩ := u9
  obtain ⟨vl_2, h_3, hP1, hK1, hD1⟩ := hB
  rw [ht] at hP1
  obtain ⟨hP, hD⟩ := va_join (wr := []) (w1 := [(m0, .inr (4, [.ref m1, .ref m2, .int (nI bk), .ref m3, .ref m4, .ref m5, .ref m6, .int sd, .ref m7, .ref m8, .int cl, .int pc, .int op])), (m1, .inl (km1, 93, .inl nw)), (m7, .inl (km7, 1525, .inl vl_2))]) hP hD [0, 1, 2] [] rfl rfl (by decide) (by decide) hk1 hFc hP1 hD1
  clear hPc hDc hKc hFc hz1 hk1 ht hvm hP1 hK1 hD1 hw t9
  generalize H1 = H at hP hS ⊢
  have hP := hP.sub (ws' := [(m0, .inr (4, [.ref m1, .ref m2, .int (nI bk), .ref m3, .ref m4, .ref m5, .ref m6, .int sd, .ref m7, .ref m8, .int cl, .int pc, .int op])), (m1, .inl (km1, 93, .inl nw)), (m7, .inl (km7, 1525, .inl vl_2))]) [0, 1, 2] rfl
  have hD := hD.sub (ws' := [(m0, .inr (4, [.ref m1, .ref m2, .int (nI bk), .ref m3, .ref m4, .ref m5, .ref m6, .int sd, .ref m7, .ref m8, .int cl, .int pc, .int op])), (m1, .inl (km1, 93, .inl nw)), (m7, .inl (km7, 1525, .inl vl_2))]) [0, 1, 2] (by decide) rfl
  refine lv_bipush (v := nI 61) hx hb dX4_bendsOf_4 (by decide) ?_
  refine lv_iload_n hx hb dX4_bendsOf_6 rfl (lv_at hl 1 rfl) ?_
  refine lv_imul hx hb dX4_bendsOf_7 ?_
  refine tp_as (pk_mul 61 h) ?_
  refine lv_istore_n (lv' := [(2, .int (nI (61 * h))), (0, .ref m0), (1, .int (nI h))]) hx hb dX4_bendsOf_8 rfl hl (by decide) rfl (fun ls hl => ?_)
  refine lv_iconst (v := nI 0) hx hb dX4_bendsOf_9 (by decide) ?_
  refine lv_istore_n (lv' := [(3, .int (nI 0)), (2, .int (nI (61 * h))), (0, .ref m0), (1, .int (nI h))]) hx hb dX4_bendsOf_10 rfl hl (by decide) rfl (fun ls hl => ?_)
  refine lv_aload_n hx hb dX4_bendsOf_11 rfl (lv_at hl 2 rfl) ?_
  refine va_get (D := (dC, dI)) (ci := 4) (v := .ref m7) (C := RX4) (T := TX4) (N := 13) hx hb hts inX4 hown hK hP 0 rfl rfl 8 (by decide) (hts (.fieldLink RX4 29 "StoreSlopesModel" "value" "[I") (List.mem_of_getElem? (i := 1) rfl)) (fun _ h9 => h9) rfl dX4_bendsOf_12 ?_
  refine lv_iload_n hx hb dX4_bendsOf_15 rfl (lv_at hl 1 rfl) ?_
  refine va_iald hx hb hK hP 2 1 rfl rfl (vp_in_nI (show 61 * h < 1525 by omega) (by omega)) dX4_bendsOf_16 ?_
  refine tp_any (fun y_4 => ?_)
  refine lv_ldc (own := RX4) (v := (-500000000)) hx hb hown (hts (.constant RX4 67 (-500000000)) (List.mem_of_getElem? (i := 2) rfl)) dX4_bendsOf_17 ?_
  have J27 : ∀ (bb27 : Int32) (H : Heap) (locs : List Loc) (ls : Array Slot), va_P (dC, dI) vwCl [(m0, .inr (4, [.ref m1, .ref m2, .int (nI bk), .ref m3, .ref m4, .ref m5, .ref m6, .int sd, .ref m7, .ref m8, .int cl, .int pc, .int op])), (m1, .inl (km1, 93, .inl nw)), (m7, .inl (km7, 1525, .inl vl_2))] H → va_D A [(m0, .inr (4, [.ref m1, .ref m2, .int (nI bk), .ref m3, .ref m4, .ref m5, .ref m6, .int sd, .ref m7, .ref m8, .int cl, .int pc, .int op])), (m1, .inl (km1, 93, .inl nw)), (m7, .inl (km7, 1525, .inl vl_2))] → va_S A s.heap H locs → lv_has ls 7 [(0, .ref m0), (1, .int (nI h)), (2, .int (nI (61 * h))), (3, .int (nI 0))] → W p l e (headSpec wsX4_bendsOf { frames := 6, cells := 0, slots := 0, locals := 142 }).room s m args below meth c H locs 0 0 Q (F0 m 27 ls [.int bb27]) := by
    intro bb27 H locs ls hP hD hS hl
    refine lv_istore (lv' := [(4, .int bb27), (0, .ref m0), (1, .int (nI h)), (2, .int (nI (61 * h))), (3, .int (nI 0))]) hx hb dX4_bendsOf_27 hl (by decide) rfl (fun ls hl => ?_)
    refine lv_iconst (v := nI 1) hx hb dX4_bendsOf_29 (by decide) ?_
    refine lv_istore (lv' := [(5, .int (nI 1)), (4, .int bb27), (0, .ref m0), (1, .int (nI h)), (2, .int (nI (61 * h))), (3, .int (nI 0))]) hx hb dX4_bendsOf_30 hl (by decide) rfl (fun ls hl => ?_)
    have L32 : ∀ (n : Nat) (i : Nat) (q3 : Int32) (q4 : Int32) (H : Heap) (locs : List Loc) (ls : Array Slot), 1 ≤ i → i ≤ 61 → 61 - i < n → va_P (dC, dI) vwCl [(m0, .inr (4, [.ref m1, .ref m2, .int (nI bk), .ref m3, .ref m4, .ref m5, .ref m6, .int sd, .ref m7, .ref m8, .int cl, .int pc, .int op])), (m1, .inl (km1, 93, .inl nw)), (m7, .inl (km7, 1525, .inl vl_2))] H → va_D A [(m0, .inr (4, [.ref m1, .ref m2, .int (nI bk), .ref m3, .ref m4, .ref m5, .ref m6, .int sd, .ref m7, .ref m8, .int cl, .int pc, .int op])), (m1, .inl (km1, 93, .inl nw)), (m7, .inl (km7, 1525, .inl vl_2))] → va_S A s.heap H locs → lv_has ls 7 [(0, .ref m0), (2, .int (nI (61 * h))), (3, .int q3), (4, .int q4), (5, .int (nI i))] → W p l e (headSpec wsX4_bendsOf { frames := 6, cells := 0, slots := 0, locals := 142 }).room s m args below meth c H locs 0 0 Q (F0 m 32 ls []) := by
      intro n
      induction n with
      | zero => intro i q3 q4 H locs ls hL32_0 hL32_1 hn; exact absurd hn (Nat.not_lt_zero _)
      | succ n ih32 =>
        intro i q3 q4 H locs ls hL32_0 hL32_1 hn hP hD hS hl
        refine lv_iload hx hb dX4_bendsOf_32 (lv_at hl 4 rfl) ?_
        refine lv_bipush (v := nI 61) hx hb dX4_bendsOf_34 (by decide) ?_
        refine lv_icmp_ge (tgt := 189) hx hb dX4_bendsOf_36 (by decide) (fun c_36 => ?_) (fun c_36 => ?_)
        · have c_36 := (nI_leI (by omega : 61 < 2 ^ 31) (by omega : i < 2 ^ 31)).mp c_36
          refine lv_iload hx hb dX4_bendsOf_189 (lv_at hl 3 rfl) ?_
          refine lv_if_eq (tgt := 198) hx hb dX4_bendsOf_191 (by decide) (fun c_191 => ?_) (fun c_191 => ?_)
          · refine lv_iconst (v := (-1)) hx hb dX4_bendsOf_198 (by decide) ?_
            subst hQe
            have hP9 := hP.sub (ws' := [(m0, .inr (4, [.ref m1, .ref m2, .int (nI bk), .ref m3, .ref m4, .ref m5, .ref m6, .int sd, .ref m7, .ref m8, .int cl, .int pc, .int op])), (m1, .inl (km1, 93, .inl nw)), (m7, .inl (km7, 1525, .inl vl_2))]) [0, 1, 2] rfl
            have hD9 := hD.sub (ws' := [(m0, .inr (4, [.ref m1, .ref m2, .int (nI bk), .ref m3, .ref m4, .ref m5, .ref m6, .int sd, .ref m7, .ref m8, .int cl, .int pc, .int op])), (m1, .inl (km1, 93, .inl nw)), (m7, .inl (km7, 1525, .inl vl_2))]) [0, 1, 2] (by decide) rfl
            have hK9 := hK.sub (tys' := [(km1, .int), (km7, .int)]) [0, 1] rfl
            subst hAe
            exact W.iret (v := ((-1))) hx hb hr (fun t ht hW => ⟨⟨_, _, rfl, rfl, vl_2, by rw [ht]; exact hP9, va_K.moved hW.alike hK9, hD9⟩, hS.F ht⟩) hS.2.2 dX4_bendsOf_199
          · refine lv_iload_n hx hb dX4_bendsOf_194 rfl (lv_at hl 2 rfl) ?_
            refine lv_goto (tgt := 199) hx hb dX4_bendsOf_195 (by decide) ?_
            subst hQe
            have hP9 := hP.sub (ws' := [(m0, .inr (4, [.ref m1, .ref m2, .int (nI bk), .ref m3, .ref m4, .ref m5, .ref m6, .int sd, .ref m7, .ref m8, .int cl, .int pc, .int op])), (m1, .inl (km1, 93, .inl nw)), (m7, .inl (km7, 1525, .inl vl_2))]) [0, 1, 2] rfl
            have hD9 := hD.sub (ws' := [(m0, .inr (4, [.ref m1, .ref m2, .int (nI bk), .ref m3, .ref m4, .ref m5, .ref m6, .int sd, .ref m7, .ref m8, .int cl, .int pc, .int op])), (m1, .inl (km1, 93, .inl nw)), (m7, .inl (km7, 1525, .inl vl_2))]) [0, 1, 2] (by decide) rfl
            have hK9 := hK.sub (tys' := [(km1, .int), (km7, .int)]) [0, 1] rfl
            subst hAe
            exact W.iret (v := q3) hx hb hr (fun t ht hW => ⟨⟨_, _, rfl, rfl, vl_2, by rw [ht]; exact hP9, va_K.moved hW.alike hK9, hD9⟩, hS.F ht⟩) hS.2.2 dX4_bendsOf_199
        · have c_36 := (not_congr (nI_leI (by omega : 61 < 2 ^ 31) (by omega : i < 2 ^ 31))).mp c_36
          refine lv_iload hx hb dX4_bendsOf_39 (lv_at hl 3 rfl) ?_
          have J63 : ∀ (bb63 : Int32) (H : Heap) (locs : List Loc) (ls : Array Slot), va_P (dC, dI) vwCl [(m0, .inr (4, [.ref m1, .ref m2, .int (nI bk), .ref m3, .ref m4, .ref m5, .ref m6, .int sd, .ref m7, .ref m8, .int cl, .int pc, .int op])), (m1, .inl (km1, 93, .inl nw)), (m7, .inl (km7, 1525, .inl vl_2))] H → va_D A [(m0, .inr (4, [.ref m1, .ref m2, .int (nI bk), .ref m3, .ref m4, .ref m5, .ref m6, .int sd, .ref m7, .ref m8, .int cl, .int pc, .int op])), (m1, .inl (km1, 93, .inl nw)), (m7, .inl (km7, 1525, .inl vl_2))] → va_S A s.heap H locs → lv_has ls 7 [(0, .ref m0), (2, .int (nI (61 * h))), (3, .int q3), (5, .int (nI i))] → W p l e (headSpec wsX4_bendsOf { frames := 6, cells := 0, slots := 0, locals := 142 }).room s m args below meth c H locs 0 0 Q (F0 m 63 ls [.int bb63]) := by
            intro bb63 H locs ls hP hD hS hl
            refine lv_istore (lv' := [(4, .int bb63), (0, .ref m0), (2, .int (nI (61 * h))), (3, .int q3), (5, .int (nI i))]) hx hb dX4_bendsOf_63 hl (by decide) rfl (fun ls hl => ?_)
            refine lv_iload hx hb dX4_bendsOf_65 (lv_at hl 4 rfl) ?_
            refine lv_bipush (v := nI 60) hx hb dX4_bendsOf_67 (by decide) ?_
            have J123 : ∀ (bb123 : Int32) (H : Heap) (locs : List Loc) (ls : Array Slot), va_P (dC, dI) vwCl [(m0, .inr (4, [.ref m1, .ref m2, .int (nI bk), .ref m3, .ref m4, .ref m5, .ref m6, .int sd, .ref m7, .ref m8, .int cl, .int pc, .int op])), (m1, .inl (km1, 93, .inl nw)), (m7, .inl (km7, 1525, .inl vl_2))] H → va_D A [(m0, .inr (4, [.ref m1, .ref m2, .int (nI bk), .ref m3, .ref m4, .ref m5, .ref m6, .int sd, .ref m7, .ref m8, .int cl, .int pc, .int op])), (m1, .inl (km1, 93, .inl nw)), (m7, .inl (km7, 1525, .inl vl_2))] → va_S A s.heap H locs → lv_has ls 7 [(0, .ref m0), (2, .int (nI (61 * h))), (3, .int q3), (4, .int bb63), (5, .int (nI i))] → W p l e (headSpec wsX4_bendsOf { frames := 6, cells := 0, slots := 0, locals := 142 }).room s m args below meth c H locs 0 0 Q (F0 m 123 ls [.int bb123]) := by
              intro bb123 H locs ls hP hD hS hl
              refine lv_istore (lv' := [(6, .int bb123), (0, .ref m0), (2, .int (nI (61 * h))), (3, .int q3), (4, .int bb63), (5, .int (nI i))]) hx hb dX4_bendsOf_123 hl (by decide) rfl (fun ls hl => ?_)
              refine lv_iload_n hx hb dX4_bendsOf_125 rfl (lv_at hl 3 rfl) ?_
              refine lv_iload hx hb dX4_bendsOf_126 (lv_at hl 0 rfl) ?_
              have J181 : ∀ (bb : Int32) (H : Heap) (locs : List Loc) (ls : Array Slot), va_P (dC, dI) vwCl [(m0, .inr (4, [.ref m1, .ref m2, .int (nI bk), .ref m3, .ref m4, .ref m5, .ref m6, .int sd, .ref m7, .ref m8, .int cl, .int pc, .int op])), (m1, .inl (km1, 93, .inl nw)), (m7, .inl (km7, 1525, .inl vl_2))] H → va_D A [(m0, .inr (4, [.ref m1, .ref m2, .int (nI bk), .ref m3, .ref m4, .ref m5, .ref m6, .int sd, .ref m7, .ref m8, .int cl, .int pc, .int op])), (m1, .inl (km1, 93, .inl nw)), (m7, .inl (km7, 1525, .inl vl_2))] → va_S A s.heap H locs → lv_has ls 7 [(0, .ref m0), (2, .int (nI (61 * h))), (4, .int bb63), (5, .int (nI i))] → W p l e (headSpec wsX4_bendsOf { frames := 6, cells := 0, slots := 0, locals := 142 }).room s m args below meth c H locs 0 0 Q (F0 m 181 ls [.int bb, .int q3]) := by
                intro bb H locs ls hP hD hS hl
                refine lv_iadd hx hb dX4_bendsOf_181 ?_
                refine tp_any (fun y_5 => ?_)
                refine lv_istore_n (lv' := [(3, .int y_5), (0, .ref m0), (2, .int (nI (61 * h))), (4, .int bb63), (5, .int (nI i))]) hx hb dX4_bendsOf_182 rfl hl (by decide) rfl (fun ls hl => ?_)
                refine lv_iinc (v := nI (i + 1)) (lv' := [(5, .int (nI (i + 1))), (3, .int y_5), (0, .ref m0), (2, .int (nI (61 * h))), (4, .int bb63)]) hx hb dX4_bendsOf_183 hl (k := 4) rfl (inc_n i 1) (by decide) rfl (fun ls hl => ?_)
                refine lv_goto (tgt := 32) hx hb dX4_bendsOf_186 (by decide) ?_
                exact ih32 (i + 1) y_5 bb63 _ _ _ (by first | assumption | omega) (by first | assumption | omega) (by omega) hP hD hS (lv_sub hl [2, 3, 1, 4, 0] rfl)
              refine lv_if_eq (tgt := 180) hx hb dX4_bendsOf_128 (by decide) (fun c_128 => ?_) (fun c_128 => ?_)
              · refine lv_iconst (v := nI 0) hx hb dX4_bendsOf_180 (by decide) ?_
                exact J181 (nI 0) _ _ _  hP hD hS (lv_sub hl [1, 2, 4, 5] rfl)
              · refine lv_aload_n hx hb dX4_bendsOf_131 rfl (lv_at hl 1 rfl) ?_
                refine va_get (D := (dC, dI)) (ci := 4) (v := .ref m7) (C := RX4) (T := TX4) (N := 13) hx hb hts inX4 hown hK hP 0 rfl rfl 8 (by decide) (hts (.fieldLink RX4 29 "StoreSlopesModel" "value" "[I") (List.mem_of_getElem? (i := 1) rfl)) (fun _ h9 => h9) rfl dX4_bendsOf_132 ?_
                refine lv_iload_n hx hb dX4_bendsOf_135 rfl (lv_at hl 2 rfl) ?_
                refine lv_iload hx hb dX4_bendsOf_136 (lv_at hl 5 rfl) ?_
                refine lv_iadd hx hb dX4_bendsOf_138 ?_
                refine tp_as (nI_add (61 * h) i) ?_
                refine va_iald hx hb hK hP 2 1 rfl rfl (vp_in_nI (show 61 * h + i < 1525 by omega) (by omega)) dX4_bendsOf_139 ?_
                refine tp_any (fun y_6 => ?_)
                refine lv_aload_n hx hb dX4_bendsOf_140 rfl (lv_at hl 1 rfl) ?_
                refine va_get (D := (dC, dI)) (ci := 4) (v := .ref m7) (C := RX4) (T := TX4) (N := 13) hx hb hts inX4 hown hK hP 0 rfl rfl 8 (by decide) (hts (.fieldLink RX4 29 "StoreSlopesModel" "value" "[I") (List.mem_of_getElem? (i := 1) rfl)) (fun _ h9 => h9) rfl dX4_bendsOf_141 ?_
                refine lv_iload_n hx hb dX4_bendsOf_144 rfl (lv_at hl 2 rfl) ?_
                refine lv_iload hx hb dX4_bendsOf_145 (lv_at hl 5 rfl) ?_
                refine lv_iadd hx hb dX4_bendsOf_147 ?_
                refine tp_as (nI_add (61 * h) i) ?_
                refine lv_iconst (v := nI 1) hx hb dX4_bendsOf_148 (by decide) ?_
                refine lv_isub hx hb dX4_bendsOf_149 ?_
                refine tp_as (pk_sub (a := 61 * h + i) (b := 1) (by omega)) ?_
                refine va_iald hx hb hK hP 2 1 rfl rfl (vp_in_nI (show (61 * h + i) - 1 < 1525 by omega) (by omega)) dX4_bendsOf_150 ?_
                refine tp_any (fun y_7 => ?_)
                refine lv_isub hx hb dX4_bendsOf_151 ?_
                refine tp_any (fun y_8 => ?_)
                refine lv_aload_n hx hb dX4_bendsOf_152 rfl (lv_at hl 1 rfl) ?_
                refine va_get (D := (dC, dI)) (ci := 4) (v := .ref m7) (C := RX4) (T := TX4) (N := 13) hx hb hts inX4 hown hK hP 0 rfl rfl 8 (by decide) (hts (.fieldLink RX4 29 "StoreSlopesModel" "value" "[I") (List.mem_of_getElem? (i := 1) rfl)) (fun _ h9 => h9) rfl dX4_bendsOf_153 ?_
                refine lv_iload_n hx hb dX4_bendsOf_156 rfl (lv_at hl 2 rfl) ?_
                refine lv_iload hx hb dX4_bendsOf_157 (lv_at hl 5 rfl) ?_
                refine lv_iadd hx hb dX4_bendsOf_159 ?_
                refine tp_as (nI_add (61 * h) i) ?_
                refine lv_iconst (v := nI 1) hx hb dX4_bendsOf_160 (by decide) ?_
                refine lv_iadd hx hb dX4_bendsOf_161 ?_
                refine tp_as (nI_add (61 * h + i) 1) ?_
                refine va_iald hx hb hK hP 2 1 rfl rfl (vp_in_nI (show 61 * h + i + 1 < 1525 by omega) (by omega)) dX4_bendsOf_162 ?_
                refine tp_any (fun y_9 => ?_)
                refine lv_aload_n hx hb dX4_bendsOf_163 rfl (lv_at hl 1 rfl) ?_
                refine va_get (D := (dC, dI)) (ci := 4) (v := .ref m7) (C := RX4) (T := TX4) (N := 13) hx hb hts inX4 hown hK hP 0 rfl rfl 8 (by decide) (hts (.fieldLink RX4 29 "StoreSlopesModel" "value" "[I") (List.mem_of_getElem? (i := 1) rfl)) (fun _ h9 => h9) rfl dX4_bendsOf_164 ?_
                refine lv_iload_n hx hb dX4_bendsOf_167 rfl (lv_at hl 2 rfl) ?_
                refine lv_iload hx hb dX4_bendsOf_168 (lv_at hl 5 rfl) ?_
                refine lv_iadd hx hb dX4_bendsOf_170 ?_
                refine tp_as (nI_add (61 * h) i) ?_
                refine va_iald hx hb hK hP 2 1 rfl rfl (vp_in_nI (show 61 * h + i < 1525 by omega) (by omega)) dX4_bendsOf_171 ?_
                refine tp_any (fun y_10 => ?_)
                refine lv_isub hx hb dX4_bendsOf_172 ?_
                refine tp_any (fun y_11 => ?_)
                refine lv_icmp_eq (tgt := 180) hx hb dX4_bendsOf_173 (by decide) (fun c_173 => ?_) (fun c_173 => ?_)
                · refine lv_iconst (v := nI 0) hx hb dX4_bendsOf_180 (by decide) ?_
                  exact J181 (nI 0) _ _ _  hP hD hS (lv_sub hl [1, 2, 4, 5] rfl)
                · refine lv_iconst (v := nI 1) hx hb dX4_bendsOf_176 (by decide) ?_
                  refine lv_goto (tgt := 181) hx hb dX4_bendsOf_177 (by decide) ?_
                  exact J181 (nI 1) _ _ _  hP hD hS (lv_sub hl [1, 2, 4, 5] rfl)
            refine lv_icmp_ge (tgt := 122) hx hb dX4_bendsOf_69 (by decide) (fun c_69 => ?_) (fun c_69 => ?_)
            · have c_69 := (nI_leI (by omega : 60 < 2 ^ 31) (by omega : i < 2 ^ 31)).mp c_69
              refine lv_iconst (v := nI 0) hx hb dX4_bendsOf_122 (by decide) ?_
              exact J123 (nI 0) _ _ _  hP hD hS (lv_sub hl [1, 2, 3, 0, 4] rfl)
            · have c_69 := (not_congr (nI_leI (by omega : 60 < 2 ^ 31) (by omega : i < 2 ^ 31))).mp c_69
              refine lv_aload_n hx hb dX4_bendsOf_72 rfl (lv_at hl 1 rfl) ?_
              refine va_get (D := (dC, dI)) (ci := 4) (v := .ref m7) (C := RX4) (T := TX4) (N := 13) hx hb hts inX4 hown hK hP 0 rfl rfl 8 (by decide) (hts (.fieldLink RX4 29 "StoreSlopesModel" "value" "[I") (List.mem_of_getElem? (i := 1) rfl)) (fun _ h9 => h9) rfl dX4_bendsOf_73 ?_
              refine lv_iload_n hx hb dX4_bendsOf_76 rfl (lv_at hl 2 rfl) ?_
              refine lv_iload hx hb dX4_bendsOf_77 (lv_at hl 4 rfl) ?_
              refine lv_iadd hx hb dX4_bendsOf_79 ?_
              refine tp_as (nI_add (61 * h) i) ?_
              refine lv_iconst (v := nI 1) hx hb dX4_bendsOf_80 (by decide) ?_
              refine lv_isub hx hb dX4_bendsOf_81 ?_
              refine tp_as (pk_sub (a := 61 * h + i) (b := 1) (by omega)) ?_
              refine va_iald hx hb hK hP 2 1 rfl rfl (vp_in_nI (show (61 * h + i) - 1 < 1525 by omega) (by omega)) dX4_bendsOf_82 ?_
              refine tp_any (fun y_12 => ?_)
              refine lv_ldc (own := RX4) (v := (-500000000)) hx hb hown (hts (.constant RX4 67 (-500000000)) (List.mem_of_getElem? (i := 2) rfl)) dX4_bendsOf_83 ?_
              refine lv_icmp_eq (tgt := 122) hx hb dX4_bendsOf_85 (by decide) (fun c_85 => ?_) (fun c_85 => ?_)
              · refine lv_iconst (v := nI 0) hx hb dX4_bendsOf_122 (by decide) ?_
                exact J123 (nI 0) _ _ _  hP hD hS (lv_sub hl [1, 2, 3, 0, 4] rfl)
              · refine lv_aload_n hx hb dX4_bendsOf_88 rfl (lv_at hl 1 rfl) ?_
                refine va_get (D := (dC, dI)) (ci := 4) (v := .ref m7) (C := RX4) (T := TX4) (N := 13) hx hb hts inX4 hown hK hP 0 rfl rfl 8 (by decide) (hts (.fieldLink RX4 29 "StoreSlopesModel" "value" "[I") (List.mem_of_getElem? (i := 1) rfl)) (fun _ h9 => h9) rfl dX4_bendsOf_89 ?_
                refine lv_iload_n hx hb dX4_bendsOf_92 rfl (lv_at hl 2 rfl) ?_
                refine lv_iload hx hb dX4_bendsOf_93 (lv_at hl 4 rfl) ?_
                refine lv_iadd hx hb dX4_bendsOf_95 ?_
                refine tp_as (nI_add (61 * h) i) ?_
                refine va_iald hx hb hK hP 2 1 rfl rfl (vp_in_nI (show 61 * h + i < 1525 by omega) (by omega)) dX4_bendsOf_96 ?_
                refine tp_any (fun y_13 => ?_)
                refine lv_ldc (own := RX4) (v := (-500000000)) hx hb hown (hts (.constant RX4 67 (-500000000)) (List.mem_of_getElem? (i := 2) rfl)) dX4_bendsOf_97 ?_
                refine lv_icmp_eq (tgt := 122) hx hb dX4_bendsOf_99 (by decide) (fun c_99 => ?_) (fun c_99 => ?_)
                · refine lv_iconst (v := nI 0) hx hb dX4_bendsOf_122 (by decide) ?_
                  exact J123 (nI 0) _ _ _  hP hD hS (lv_sub hl [1, 2, 3, 0, 4] rfl)
                · refine lv_aload_n hx hb dX4_bendsOf_102 rfl (lv_at hl 1 rfl) ?_
                  refine va_get (D := (dC, dI)) (ci := 4) (v := .ref m7) (C := RX4) (T := TX4) (N := 13) hx hb hts inX4 hown hK hP 0 rfl rfl 8 (by decide) (hts (.fieldLink RX4 29 "StoreSlopesModel" "value" "[I") (List.mem_of_getElem? (i := 1) rfl)) (fun _ h9 => h9) rfl dX4_bendsOf_103 ?_
                  refine lv_iload_n hx hb dX4_bendsOf_106 rfl (lv_at hl 2 rfl) ?_
                  refine lv_iload hx hb dX4_bendsOf_107 (lv_at hl 4 rfl) ?_
                  refine lv_iadd hx hb dX4_bendsOf_109 ?_
                  refine tp_as (nI_add (61 * h) i) ?_
                  refine lv_iconst (v := nI 1) hx hb dX4_bendsOf_110 (by decide) ?_
                  refine lv_iadd hx hb dX4_bendsOf_111 ?_
                  refine tp_as (nI_add (61 * h + i) 1) ?_
                  refine va_iald hx hb hK hP 2 1 rfl rfl (vp_in_nI (show 61 * h + i + 1 < 1525 by omega) (by omega)) dX4_bendsOf_112 ?_
                  refine tp_any (fun y_14 => ?_)
                  refine lv_ldc (own := RX4) (v := (-500000000)) hx hb hown (hts (.constant RX4 67 (-500000000)) (List.mem_of_getElem? (i := 2) rfl)) dX4_bendsOf_113 ?_
                  refine lv_icmp_eq (tgt := 122) hx hb dX4_bendsOf_115 (by decide) (fun c_115 => ?_) (fun c_115 => ?_)
                  · refine lv_iconst (v := nI 0) hx hb dX4_bendsOf_122 (by decide) ?_
                    exact J123 (nI 0) _ _ _  hP hD hS (lv_sub hl [1, 2, 3, 0, 4] rfl)
                  · refine lv_iconst (v := nI 1) hx hb dX4_bendsOf_118 (by decide) ?_
                    refine lv_goto (tgt := 123) hx hb dX4_bendsOf_119 (by decide) ?_
                    exact J123 (nI 1) _ _ _  hP hD hS (lv_sub hl [1, 2, 3, 0, 4] rfl)
          refine lv_if_ne (tgt := 58) hx hb dX4_bendsOf_41 (by decide) (fun c_41 => ?_) (fun c_41 => ?_)
          · refine lv_iconst (v := nI 1) hx hb dX4_bendsOf_58 (by decide) ?_
            refine lv_goto (tgt := 63) hx hb dX4_bendsOf_59 (by decide) ?_
            exact J63 (nI 1) _ _ _  hP hD hS (lv_sub hl [0, 1, 2, 4] rfl)
          · refine lv_aload_n hx hb dX4_bendsOf_44 rfl (lv_at hl 0 rfl) ?_
            refine va_get (D := (dC, dI)) (ci := 4) (v := .ref m7) (C := RX4) (T := TX4) (N := 13) hx hb hts inX4 hown hK hP 0 rfl rfl 8 (by decide) (hts (.fieldLink RX4 29 "StoreSlopesModel" "value" "[I") (List.mem_of_getElem? (i := 1) rfl)) (fun _ h9 => h9) rfl dX4_bendsOf_45 ?_
            refine lv_iload_n hx hb dX4_bendsOf_48 rfl (lv_at hl 1 rfl) ?_
            refine lv_iload hx hb dX4_bendsOf_49 (lv_at hl 4 rfl) ?_
            refine lv_iadd hx hb dX4_bendsOf_51 ?_
            refine tp_as (nI_add (61 * h) i) ?_
            refine va_iald hx hb hK hP 2 1 rfl rfl (vp_in_nI (show 61 * h + i < 1525 by omega) (by omega)) dX4_bendsOf_52 ?_
            refine tp_any (fun y_15 => ?_)
            refine lv_ldc (own := RX4) (v := (-500000000)) hx hb hown (hts (.constant RX4 67 (-500000000)) (List.mem_of_getElem? (i := 2) rfl)) dX4_bendsOf_53 ?_
            refine lv_icmp_eq (tgt := 62) hx hb dX4_bendsOf_55 (by decide) (fun c_55 => ?_) (fun c_55 => ?_)
            · refine lv_iconst (v := nI 0) hx hb dX4_bendsOf_62 (by decide) ?_
              exact J63 (nI 0) _ _ _  hP hD hS (lv_sub hl [0, 1, 2, 4] rfl)
            · refine lv_iconst (v := nI 1) hx hb dX4_bendsOf_58 (by decide) ?_
              refine lv_goto (tgt := 63) hx hb dX4_bendsOf_59 (by decide) ?_
              exact J63 (nI 1) _ _ _  hP hD hS (lv_sub hl [0, 1, 2, 4] rfl)
    exact L32 (61 - 1 + 1) 1 (nI 0) bb27 _ _ _ (by first | assumption | omega) (by first | assumption | omega) (Nat.lt_succ_self _) hP hD hS (lv_sub hl [2, 4, 5, 1, 0] rfl)
  refine lv_icmp_eq (tgt := 26) hx hb dX4_bendsOf_19 (by decide) (fun c_19 => ?_) (fun c_19 => ?_)
  · refine lv_iconst (v := nI 0) hx hb dX4_bendsOf_26 (by decide) ?_
    exact J27 (nI 0) _ _ _  hP hD hS (lv_sub hl [2, 3, 1, 0] rfl)
  · refine lv_iconst (v := nI 1) hx hb dX4_bendsOf_22 (by decide) ?_
    refine lv_goto (tgt := 27) hx hb dX4_bendsOf_23 (by decide) ?_
    exact J27 (nI 1) _ _ _  hP hD hS (lv_sub hl [2, 3, 1, 0] rfl)
set_option maxHeartbeats 4000000 in
set_option maxRecDepth 100000 in
theorem c_X4_note (l : Launch) (dC : Nat → ClassId) (dI : Nat → Nat → Nat) (m0 m1 m3 m2 m4 m5 m6 m7 m8 : Nat) (km1 km3 : ClassId) (sz : Nat) (bk : Nat) (sd : Int32) (cl : Int32) (pc : Int32) (op : Int32) (nw : Nat → Int32) (bc : Nat → Int32) (i0 : bk ≤ 40) (i1 : okN nw) (i2 : okB 40 bc) : Met l yX4_note wsX4_note ({ frames := 1, cells := 0, slots := 0, locals := 25 }) (va_Pc [.ref m0] (fun U => U.heap.size = sz ∧ va_P (dC, dI) vwCl [(m0, .inr (4, [.ref m1, .ref m2, .int (nI bk), .ref m3, .ref m4, .ref m5, .ref m6, .int sd, .ref m7, .ref m8, .int cl, .int pc, .int op])), (m1, .inl (km1, 93, .inl nw)), (m3, .inl (km3, 3720, .inl bc))] U.heap ∧ va_K (dC, dI) vwCl [(km1, .int), (km3, .int)] U ∧ va_D (fun _ => True) [(m0, .inr (4, [.ref m1, .ref m2, .int (nI bk), .ref m3, .ref m4, .ref m5, .ref m6, .int sd, .ref m7, .ref m8, .int cl, .int pc, .int op])), (m1, .inl (km1, 93, .inl nw)), (m3, .inl (km3, 3720, .inl bc))])) (va_Qv (fun _ : Unit => True) (fun _ t => ∃ (bk' : Nat) (bc' : Nat → Int32), bk' ≤ 40 ∧ okB 40 bc' ∧ va_P (dC, dI) vwCl [(m0, .inr (4, [.ref m1, .ref m2, .int (nI bk'), .ref m3, .ref m4, .ref m5, .ref m6, .int sd, .ref m7, .ref m8, .int cl, .int pc, .int op])), (m1, .inl (km1, 93, .inl nw)), (m3, .inl (km3, 3720, .inl bc'))] t.heap ∧ va_K (dC, dI) vwCl [(km1, .int), (km3, .int)] t ∧ va_D (va_A [(m0, .inr (4, [.ref m1, .ref m2, .int (nI bk), .ref m3, .ref m4, .ref m5, .ref m6, .int sd, .ref m7, .ref m8, .int cl, .int pc, .int op])), (m1, .inl (km1, 93, .inl nw)), (m3, .inl (km3, 3720, .inl bc))] sz) [(m0, .inr (4, [.ref m1, .ref m2, .int (nI bk'), .ref m3, .ref m4, .ref m5, .ref m6, .int sd, .ref m7, .ref m8, .int cl, .int pc, .int op])), (m1, .inl (km1, 93, .inl nw)), (m3, .inl (km3, 3720, .inl bc'))]) (va_A [(m0, .inr (4, [.ref m1, .ref m2, .int (nI bk), .ref m3, .ref m4, .ref m5, .ref m6, .int sd, .ref m7, .ref m8, .int cl, .int pc, .int op])), (m1, .inl (km1, 93, .inl nw)), (m3, .inl (km3, 3720, .inl bc))] sz)) 0 0 (va_A [(m0, .inr (4, [.ref m1, .ref m2, .int (nI bk), .ref m3, .ref m4, .ref m5, .ref m6, .int sd, .ref m7, .ref m8, .int cl, .int pc, .int op])), (m1, .inl (km1, 93, .inl nw)), (m3, .inl (km3, 3720, .inl bc))] sz) := by
  refine Met.ofW (cc := cX4_note) (maxL := 1) (ret := none) (by decide) rfl ?_
  intro p e s m args below meth c s₁ B hml hv
  obtain ⟨rfl, hsz, hP, hK, hD0⟩ := hv
  have hx := B.exec
  have hb := B.bytes
  have hr := B.returns
  have hts := atoms_spec (ws := wsX4_note) B.pre
  have hown : s.vm.findClass RX4 = some m.cls := findClass_of_methodNamed B.named
  have hlocks := B.notSynchronized
  have inX4 : ∀ w ∈ wsX40, w ∈ wsX4_note := fun _ h => List.mem_cons_of_mem _ (List.mem_append_right _ h)
  subst hsz
  have hD := hD0.self (sz := s.heap.size)
  generalize hAe : va_A [(m0, .inr (4, [.ref m1, .ref m2, .int (nI bk), .ref m3, .ref m4, .ref m5, .ref m6, .int sd, .ref m7, .ref m8, .int cl, .int pc, .int op])), (m1, .inl (km1, 93, .inl nw)), (m3, .inl (km3, 3720, .inl bc))] s.heap.size = A at hD ⊢
  have hA : ∀ q : Nat, s.heap.size ≤ q → A q := fun q h => by rw [← hAe]; exact Or.inr h
  have hS : va_S A s.heap s.heap [] := va_S.rf
  have hl := lv_entry ([.ref m0]) (n := 1) (Nat.le_of_ble_eq_true rfl)
  rw [lg_entry_eq]
  generalize (lg_sl ([.ref m0]) ++ List.replicate (1 - (lg_sl ([.ref m0])).length) Slot.unset).toArray = ls at hl ⊢
  generalize hQe : MQ below _ _ s 0 0 _ = Q
  generalize ([.ref m0] : List Value).toArray = args at hts hQe ⊢
  have hl : lv_has ls 1 [(0, .ref m0)] := hl
  refine lv_aload_n hx hb dX4_note_0 rfl (lv_at hl 0 rfl) ?_
  refine va_get (D := (dC, dI)) (ci := 4) (v := .int (nI bk)) (C := RX4) (T := TX4) (N := 13) hx hb hts inX4 hown hK hP 0 rfl rfl 2 (by decide) (hts (.fieldLink RX4 99 "StoreSlopesModel" "backs" "I") (List.mem_of_getElem? (i := 1) rfl)) (fun _ h9 => h9) rfl dX4_note_1 ?_
  refine lv_bipush (v := nI 40) hx hb dX4_note_4 (by decide) ?_
  refine lv_icmp_ne (tgt := 36) hx hb dX4_note_6 (by decide) (fun c_6 => ?_) (fun c_6 => ?_)
  · have c_6 := (not_congr (nI_eq (by omega : bk < 2 ^ 31) (by omega : 40 < 2 ^ 31))).mp c_6
    refine lv_aload_n hx hb dX4_note_36 rfl (lv_at hl 0 rfl) ?_
    refine va_get (D := (dC, dI)) (ci := 4) (v := .ref m1) (C := RX4) (T := TX4) (N := 13) hx hb hts inX4 hown hK hP 0 rfl rfl 0 (by decide) (hts (.fieldLink RX4 7 "StoreSlopesModel" "now" "[I") (List.mem_of_getElem? (i := 3) rfl)) (fun _ h9 => h9) rfl dX4_note_37 ?_
    refine lv_iconst (v := nI 0) hx hb dX4_note_40 (by decide) ?_
    refine lv_aload_n hx hb dX4_note_41 rfl (lv_at hl 0 rfl) ?_
    refine va_get (D := (dC, dI)) (ci := 4) (v := .ref m3) (C := RX4) (T := TX4) (N := 13) hx hb hts inX4 hown hK hP 0 rfl rfl 3 (by decide) (hts (.fieldLink RX4 16 "StoreSlopesModel" "back" "[I") (List.mem_of_getElem? (i := 2) rfl)) (fun _ h9 => h9) rfl dX4_note_42 ?_
    refine lv_bipush (v := nI 93) hx hb dX4_note_45 (by decide) ?_
    refine lv_aload_n hx hb dX4_note_47 rfl (lv_at hl 0 rfl) ?_
    refine va_get (D := (dC, dI)) (ci := 4) (v := .int (nI bk)) (C := RX4) (T := TX4) (N := 13) hx hb hts inX4 hown hK hP 0 rfl rfl 2 (by decide) (hts (.fieldLink RX4 99 "StoreSlopesModel" "backs" "I") (List.mem_of_getElem? (i := 1) rfl)) (fun _ h9 => h9) rfl dX4_note_48 ?_
    refine lv_imul hx hb dX4_note_51 ?_
    refine tp_as (pk_mul 93 bk) ?_
    refine lv_bipush (v := nI 93) hx hb dX4_note_52 (by decide) ?_
    have hPc := hP.sub (ws' := [(m1, .inl (km1, 93, .inl nw)), (m3, .inl (km3, 3720, .inl bc))]) [1, 2] rfl
    have hKc := hK.sub (tys' := [(km1, .int), (km3, .int)]) [0, 1] rfl
    have hDc := hD.sub (ws' := [(m1, .inl (km1, 93, .inl nw)), (m3, .inl (km3, 3720, .inl bc))]) [1, 2] (by decide) rfl
    have hFc := va_free (wc := [(m1, .inl (km1, 93, .inl nw)), (m3, .inl (km3, 3720, .inl bc))]) hD hS hA [1, 2] rfl
    refine va_callv (va_runS (As := [.ref m1, .int (nI 0), .ref m3, .int (nI (93 * bk)), .int (nI 93)]) (rest := []) ⟨hx, hb, hml, hown, hts⟩ (c_X4_bring l dC dI m1 m3 km1 km3 s.heap.size 93 nw 3720 bc 0 (93 * bk) 93  (by first | assumption | omega) (by first | assumption | omega) (by first | assumption | omega) (by first | assumption | omega)) (va_cwS 5 hts gX4_note_X4_bring rfl rfl rfl (by decide +kernel) ⟨Nat.le_of_ble_eq_true rfl, Nat.le_of_ble_eq_true rfl⟩) ⟨fun a U g mk q => by obtain ⟨q0, q1, qP, qK, qD⟩ := q; exact ⟨q0, q1, qP, va_K.moved (u := U) (U := U.calling g mk a) (Vm.Alike.refl U.vm) qK, qD⟩, fun U hU hW => ⟨rfl, by rw [hU], by rw [hU]; exact hPc, va_K.moved hW.alike hKc, hDc.weaken (fun _ _ _ _ => trivial)⟩⟩ rfl rfl hl.1 rfl (lv_room (Nat.le_of_ble_eq_true rfl)) dX4_note_54 ⟨Nat.le_of_ble_eq_true rfl, Nat.le_of_ble_eq_true rfl⟩) hS (fun q _ h => hFc q h) hFc (fun u9 t9 H1 locs ht hvm hw hB hz1 hk1 hS => ?_)
    refine W.widen (k := 0) (n := 0) (Nat.le_of_ble_eq_true rfl) (Nat.le_of_ble_eq_true rfl) ?_
    obtain ⟨⟩ := u9
    obtain ⟨gg_2, h_3, hP1, hK1, hD1⟩ := hB
    rw [ht] at hP1
    obtain ⟨hP, hD⟩ := va_join (wr := [(m0, .inr (4, [.ref m1, .ref m2, .int (nI bk), .ref m3, .ref m4, .ref m5, .ref m6, .int sd, .ref m7, .ref m8, .int cl, .int pc, .int op]))]) (w1 := [(m1, .inl (km1, 93, .inl nw)), (m3, .inl (km3, 3720, .inl gg_2))]) hP hD [1, 2] [0] rfl rfl (by decide) (by decide) hk1 hFc hP1 hD1
    clear hPc hDc hKc hFc hz1 hk1 ht hvm hP1 hK1 hD1 hw t9
    generalize H1 = H at hP hS ⊢
    have hP := hP.sub (ws' := [(m0, .inr (4, [.ref m1, .ref m2, .int (nI bk), .ref m3, .ref m4, .ref m5, .ref m6, .int sd, .ref m7, .ref m8, .int cl, .int pc, .int op])), (m1, .inl (km1, 93, .inl nw)), (m3, .inl (km3, 3720, .inl gg_2))]) [0, 1, 2] rfl
    have hD := hD.sub (ws' := [(m0, .inr (4, [.ref m1, .ref m2, .int (nI bk), .ref m3, .ref m4, .ref m5, .ref m6, .int sd, .ref m7, .ref m8, .int cl, .int pc, .int op])), (m1, .inl (km1, 93, .inl nw)), (m3, .inl (km3, 3720, .inl gg_2))]) [0, 1, 2] (by decide) rfl
    have hpt := okB_put (by assumption) i1 h_3
    refine lv_aload_n hx hb dX4_note_57 rfl (lv_at hl 0 rfl) ?_
    refine lv_dup hx hb dX4_note_58 rfl ?_
    refine va_get (D := (dC, dI)) (ci := 4) (v := .int (nI bk)) (C := RX4) (T := TX4) (N := 13) hx hb hts inX4 hown hK hP 0 rfl rfl 2 (by decide) (hts (.fieldLink RX4 99 "StoreSlopesModel" "backs" "I") (List.mem_of_getElem? (i := 1) rfl)) (fun _ h9 => h9) rfl dX4_note_59 ?_
    refine lv_iconst (v := nI 1) hx hb dX4_note_62 (by decide) ?_
    refine lv_iadd hx hb dX4_note_63 ?_
    refine tp_as (nI_add bk 1) ?_
    refine va_put (D := (dC, dI)) (ci := 4) (v := .int (nI (bk + 1))) (ty := .int) (C := RX4) (T := TX4) (N := 13) hx hb hts inX4 tyX4 tyX4_ok nmX4 hown hK hP hD hS 0 rfl rfl 2 (by decide) (hts (.fieldLink RX4 99 "StoreSlopesModel" "backs" "I") (List.mem_of_getElem? (i := 1) rfl)) (fun _ h9 => h9) rfl (by decide +kernel) rfl rfl (Nat.le_of_ble_eq_true rfl) dX4_note_64 (fun H locs hP hD hS => ?_)
    have hP : va_P (dC, dI) vwCl [(m0, .inr (4, [.ref m1, .ref m2, .int (nI (bk + 1)), .ref m3, .ref m4, .ref m5, .ref m6, .int sd, .ref m7, .ref m8, .int cl, .int pc, .int op])), (m1, .inl (km1, 93, .inl nw)), (m3, .inl (km3, 3720, .inl gg_2))] H := hP
    have hD : va_D A [(m0, .inr (4, [.ref m1, .ref m2, .int (nI (bk + 1)), .ref m3, .ref m4, .ref m5, .ref m6, .int sd, .ref m7, .ref m8, .int cl, .int pc, .int op])), (m1, .inl (km1, 93, .inl nw)), (m3, .inl (km3, 3720, .inl gg_2))] := hD
    subst hQe
    have hP9 := hP.sub (ws' := [(m0, .inr (4, [.ref m1, .ref m2, .int (nI (bk + 1)), .ref m3, .ref m4, .ref m5, .ref m6, .int sd, .ref m7, .ref m8, .int cl, .int pc, .int op])), (m1, .inl (km1, 93, .inl nw)), (m3, .inl (km3, 3720, .inl gg_2))]) [0, 1, 2] rfl
    have hD9 := hD.sub (ws' := [(m0, .inr (4, [.ref m1, .ref m2, .int (nI (bk + 1)), .ref m3, .ref m4, .ref m5, .ref m6, .int sd, .ref m7, .ref m8, .int cl, .int pc, .int op])), (m1, .inl (km1, 93, .inl nw)), (m3, .inl (km3, 3720, .inl gg_2))]) [0, 1, 2] (by decide) rfl
    have hK9 := hK.sub (tys' := [(km1, .int), (km3, .int)]) [0, 1] rfl
    subst hAe
    exact W.vret hx hb hr (fun t ht hW => ⟨⟨(), rfl, trivial, (bk + 1), gg_2, (by first | assumption | omega), (by first | assumption | omega), by rw [ht]; exact hP9, va_K.moved hW.alike hK9, hD9⟩, hS.F ht⟩) hS.2.2 dX4_note_67
  · have c_6 := (nI_eq (by omega : bk < 2 ^ 31) (by omega : 40 < 2 ^ 31)).mp c_6
    refine lv_aload_n hx hb dX4_note_9 rfl (lv_at hl 0 rfl) ?_
    refine va_get (D := (dC, dI)) (ci := 4) (v := .ref m3) (C := RX4) (T := TX4) (N := 13) hx hb hts inX4 hown hK hP 0 rfl rfl 3 (by decide) (hts (.fieldLink RX4 16 "StoreSlopesModel" "back" "[I") (List.mem_of_getElem? (i := 2) rfl)) (fun _ h9 => h9) rfl dX4_note_10 ?_
    refine lv_bipush (v := nI 93) hx hb dX4_note_13 (by decide) ?_
    refine lv_aload_n hx hb dX4_note_15 rfl (lv_at hl 0 rfl) ?_
    refine va_get (D := (dC, dI)) (ci := 4) (v := .ref m3) (C := RX4) (T := TX4) (N := 13) hx hb hts inX4 hown hK hP 0 rfl rfl 3 (by decide) (hts (.fieldLink RX4 16 "StoreSlopesModel" "back" "[I") (List.mem_of_getElem? (i := 2) rfl)) (fun _ h9 => h9) rfl dX4_note_16 ?_
    refine lv_iconst (v := nI 0) hx hb dX4_note_19 (by decide) ?_
    refine lv_sipush (v := nI 3627) hx hb dX4_note_20 (by decide) ?_
    have hPc := hP.sub (ws' := [(m3, .inl (km3, 3720, .inl bc))]) [2] rfl
    have hKc := hK.sub (tys' := [(km3, .int)]) [1] rfl
    have hDc := hD.sub (ws' := [(m3, .inl (km3, 3720, .inl bc))]) [2] (by decide) rfl
    have hFc := va_free (wc := [(m3, .inl (km3, 3720, .inl bc))]) hD hS hA [2] rfl
    refine va_callv (va_runS (As := [.ref m3, .int (nI 93), .ref m3, .int (nI 0), .int (nI 3627)]) (rest := []) ⟨hx, hb, hml, hown, hts⟩ (c_X4_bring_s l dC dI m3 km3 s.heap.size 3720 bc 93 0 3627  (by first | assumption | omega) (by first | assumption | omega) (by first | assumption | omega)) (va_cwS 5 hts gX4_note_X4_bring rfl rfl rfl (by decide +kernel) ⟨Nat.le_of_ble_eq_true rfl, Nat.le_of_ble_eq_true rfl⟩) ⟨fun a U g mk q => by obtain ⟨q0, q1, qP, qK, qD⟩ := q; exact ⟨q0, q1, qP, va_K.moved (u := U) (U := U.calling g mk a) (Vm.Alike.refl U.vm) qK, qD⟩, fun U hU hW => ⟨rfl, by rw [hU], by rw [hU]; exact hPc, va_K.moved hW.alike hKc, hDc.weaken (fun _ _ _ _ => trivial)⟩⟩ rfl rfl hl.1 rfl (lv_room (Nat.le_of_ble_eq_true rfl)) dX4_note_23 ⟨Nat.le_of_ble_eq_true rfl, Nat.le_of_ble_eq_true rfl⟩) hS (fun q _ h => hFc q h) hFc (fun u9 t9 H1 locs ht hvm hw hB hz1 hk1 hS => ?_)
    refine W.widen (k := 0) (n := 0) (Nat.le_of_ble_eq_true rfl) (Nat.le_of_ble_eq_true rfl) ?_
    obtain ⟨⟩ := u9
    obtain ⟨ff_5, h_6, hP1, hK1, hD1⟩ := hB
    rw [ht] at hP1
    obtain ⟨hP, hD⟩ := va_join (wr := [(m0, .inr (4, [.ref m1, .ref m2, .int (nI bk), .ref m3, .ref m4, .ref m5, .ref m6, .int sd, .ref m7, .ref m8, .int cl, .int pc, .int op])), (m1, .inl (km1, 93, .inl nw))]) (w1 := [(m3, .inl (km3, 3720, .inl ff_5))]) hP hD [2] [0, 1] rfl rfl (by decide) (by decide) hk1 hFc hP1 hD1
    clear hPc hDc hKc hFc hz1 hk1 ht hvm hP1 hK1 hD1 hw t9
    generalize H1 = H at hP hS ⊢
    have hP := hP.sub (ws' := [(m0, .inr (4, [.ref m1, .ref m2, .int (nI bk), .ref m3, .ref m4, .ref m5, .ref m6, .int sd, .ref m7, .ref m8, .int cl, .int pc, .int op])), (m1, .inl (km1, 93, .inl nw)), (m3, .inl (km3, 3720, .inl ff_5))]) [0, 1, 2] rfl
    have hD := hD.sub (ws' := [(m0, .inr (4, [.ref m1, .ref m2, .int (nI bk), .ref m3, .ref m4, .ref m5, .ref m6, .int sd, .ref m7, .ref m8, .int cl, .int pc, .int op])), (m1, .inl (km1, 93, .inl nw)), (m3, .inl (km3, 3720, .inl ff_5))]) [0, 1, 2] (by decide) rfl
    have hsh := okB_shift i2 h_6
    refine lv_aload_n hx hb dX4_note_26 rfl (lv_at hl 0 rfl) ?_
    refine lv_dup hx hb dX4_note_27 rfl ?_
    refine va_get (D := (dC, dI)) (ci := 4) (v := .int (nI bk)) (C := RX4) (T := TX4) (N := 13) hx hb hts inX4 hown hK hP 0 rfl rfl 2 (by decide) (hts (.fieldLink RX4 99 "StoreSlopesModel" "backs" "I") (List.mem_of_getElem? (i := 1) rfl)) (fun _ h9 => h9) rfl dX4_note_28 ?_
    refine lv_iconst (v := nI 1) hx hb dX4_note_31 (by decide) ?_
    refine lv_isub hx hb dX4_note_32 ?_
    refine tp_as (pk_sub (a := bk) (b := 1) (by omega)) ?_
    refine va_put (D := (dC, dI)) (ci := 4) (v := .int (nI (bk - 1))) (ty := .int) (C := RX4) (T := TX4) (N := 13) hx hb hts inX4 tyX4 tyX4_ok nmX4 hown hK hP hD hS 0 rfl rfl 2 (by decide) (hts (.fieldLink RX4 99 "StoreSlopesModel" "backs" "I") (List.mem_of_getElem? (i := 1) rfl)) (fun _ h9 => h9) rfl (by decide +kernel) rfl rfl (Nat.le_of_ble_eq_true rfl) dX4_note_33 (fun H locs hP hD hS => ?_)
    have hP : va_P (dC, dI) vwCl [(m0, .inr (4, [.ref m1, .ref m2, .int (nI (bk - 1)), .ref m3, .ref m4, .ref m5, .ref m6, .int sd, .ref m7, .ref m8, .int cl, .int pc, .int op])), (m1, .inl (km1, 93, .inl nw)), (m3, .inl (km3, 3720, .inl ff_5))] H := hP
    have hD : va_D A [(m0, .inr (4, [.ref m1, .ref m2, .int (nI (bk - 1)), .ref m3, .ref m4, .ref m5, .ref m6, .int sd, .ref m7, .ref m8, .int cl, .int pc, .int op])), (m1, .inl (km1, 93, .inl nw)), (m3, .inl (km3, 3720, .inl ff_5))] := hD
    refine lv_aload_n hx hb dX4_note_36 rfl (lv_at hl 0 rfl) ?_
    refine va_get (D := (dC, dI)) (ci := 4) (v := .ref m1) (C := RX4) (T := TX4) (N := 13) hx hb hts inX4 hown hK hP 0 rfl rfl 0 (by decide) (hts (.fieldLink RX4 7 "StoreSlopesModel" "now" "[I") (List.mem_of_getElem? (i := 3) rfl)) (fun _ h9 => h9) rfl dX4_note_37 ?_
    refine lv_iconst (v := nI 0) hx hb dX4_note_40 (by decide) ?_
    refine lv_aload_n hx hb dX4_note_41 rfl (lv_at hl 0 rfl) ?_
    refine va_get (D := (dC, dI)) (ci := 4) (v := .ref m3) (C := RX4) (T := TX4) (N := 13) hx hb hts inX4 hown hK hP 0 rfl rfl 3 (by decide) (hts (.fieldLink RX4 16 "StoreSlopesModel" "back" "[I") (List.mem_of_getElem? (i := 2) rfl)) (fun _ h9 => h9) rfl dX4_note_42 ?_
    refine lv_bipush (v := nI 93) hx hb dX4_note_45 (by decide) ?_
    refine lv_aload_n hx hb dX4_note_47 rfl (lv_at hl 0 rfl) ?_
    refine va_get (D := (dC, dI)) (ci := 4) (v := .int (nI (bk - 1))) (C := RX4) (T := TX4) (N := 13) hx hb hts inX4 hown hK hP 0 rfl rfl 2 (by decide) (hts (.fieldLink RX4 99 "StoreSlopesModel" "backs" "I") (List.mem_of_getElem? (i := 1) rfl)) (fun _ h9 => h9) rfl dX4_note_48 ?_
    refine lv_imul hx hb dX4_note_51 ?_
    refine tp_as (pk_mul 93 (bk - 1)) ?_
    refine lv_bipush (v := nI 93) hx hb dX4_note_52 (by decide) ?_
    have hPc := hP.sub (ws' := [(m1, .inl (km1, 93, .inl nw)), (m3, .inl (km3, 3720, .inl ff_5))]) [1, 2] rfl
    have hKc := hK.sub (tys' := [(km1, .int), (km3, .int)]) [0, 1] rfl
    have hDc := hD.sub (ws' := [(m1, .inl (km1, 93, .inl nw)), (m3, .inl (km3, 3720, .inl ff_5))]) [1, 2] (by decide) rfl
    have hFc := va_free (wc := [(m1, .inl (km1, 93, .inl nw)), (m3, .inl (km3, 3720, .inl ff_5))]) hD hS hA [1, 2] rfl
    refine va_callv (va_runS (As := [.ref m1, .int (nI 0), .ref m3, .int (nI (93 * (bk - 1))), .int (nI 93)]) (rest := []) ⟨hx, hb, hml, hown, hts⟩ (c_X4_bring l dC dI m1 m3 km1 km3 H.size 93 nw 3720 ff_5 0 (93 * (bk - 1)) 93  (by first | assumption | omega) (by first | assumption | omega) (by first | assumption | omega) (by first | assumption | omega)) (va_cwS 5 hts gX4_note_X4_bring rfl rfl rfl (by decide +kernel) ⟨Nat.le_of_ble_eq_true rfl, Nat.le_of_ble_eq_true rfl⟩) ⟨fun a U g mk q => by obtain ⟨q0, q1, qP, qK, qD⟩ := q; exact ⟨q0, q1, qP, va_K.moved (u := U) (U := U.calling g mk a) (Vm.Alike.refl U.vm) qK, qD⟩, fun U hU hW => ⟨rfl, by rw [hU], by rw [hU]; exact hPc, va_K.moved hW.alike hKc, hDc.weaken (fun _ _ _ _ => trivial)⟩⟩ rfl rfl hl.1 rfl (lv_room (Nat.le_of_ble_eq_true rfl)) dX4_note_54 ⟨Nat.le_of_ble_eq_true rfl, Nat.le_of_ble_eq_true rfl⟩) hS (fun q _ h => hFc q h) hFc (fun u9 t9 H1 locs ht hvm hw hB hz1 hk1 hS => ?_)
    refine W.widen (k := 0) (n := 0) (Nat.le_of_ble_eq_true rfl) (Nat.le_of_ble_eq_true rfl) ?_
    obtain ⟨⟩ := u9
    obtain ⟨gg_8, h_9, hP1, hK1, hD1⟩ := hB
    rw [ht] at hP1
    obtain ⟨hP, hD⟩ := va_join (wr := [(m0, .inr (4, [.ref m1, .ref m2, .int (nI (bk - 1)), .ref m3, .ref m4, .ref m5, .ref m6, .int sd, .ref m7, .ref m8, .int cl, .int pc, .int op]))]) (w1 := [(m1, .inl (km1, 93, .inl nw)), (m3, .inl (km3, 3720, .inl gg_8))]) hP hD [1, 2] [0] rfl rfl (by decide) (by decide) hk1 hFc hP1 hD1
    clear hPc hDc hKc hFc hz1 hk1 ht hvm hP1 hK1 hD1 hw t9
    generalize H1 = H at hP hS ⊢
    have hP := hP.sub (ws' := [(m0, .inr (4, [.ref m1, .ref m2, .int (nI (bk - 1)), .ref m3, .ref m4, .ref m5, .ref m6, .int sd, .ref m7, .ref m8, .int cl, .int pc, .int op])), (m1, .inl (km1, 93, .inl nw)), (m3, .inl (km3, 3720, .inl gg_8))]) [0, 1, 2] rfl
    have hD := hD.sub (ws' := [(m0, .inr (4, [.ref m1, .ref m2, .int (nI (bk - 1)), .ref m3, .ref m4, .ref m5, .ref m6, .int sd, .ref m7, .ref m8, .int cl, .int pc, .int op])), (m1, .inl (km1, 93, .inl nw)), (m3, .inl (km3, 3720, .inl gg_8))]) [0, 1, 2] (by decide) rfl
    have hpt := okB_put (by assumption) i1 h_9
    refine lv_aload_n hx hb dX4_note_57 rfl (lv_at hl 0 rfl) ?_
    refine lv_dup hx hb dX4_note_58 rfl ?_
    refine va_get (D := (dC, dI)) (ci := 4) (v := .int (nI (bk - 1))) (C := RX4) (T := TX4) (N := 13) hx hb hts inX4 hown hK hP 0 rfl rfl 2 (by decide) (hts (.fieldLink RX4 99 "StoreSlopesModel" "backs" "I") (List.mem_of_getElem? (i := 1) rfl)) (fun _ h9 => h9) rfl dX4_note_59 ?_
    refine lv_iconst (v := nI 1) hx hb dX4_note_62 (by decide) ?_
    refine lv_iadd hx hb dX4_note_63 ?_
    refine tp_as (nI_add (bk - 1) 1) ?_
    refine va_put (D := (dC, dI)) (ci := 4) (v := .int (nI ((bk - 1) + 1))) (ty := .int) (C := RX4) (T := TX4) (N := 13) hx hb hts inX4 tyX4 tyX4_ok nmX4 hown hK hP hD hS 0 rfl rfl 2 (by decide) (hts (.fieldLink RX4 99 "StoreSlopesModel" "backs" "I") (List.mem_of_getElem? (i := 1) rfl)) (fun _ h9 => h9) rfl (by decide +kernel) rfl rfl (Nat.le_of_ble_eq_true rfl) dX4_note_64 (fun H locs hP hD hS => ?_)
    have hP : va_P (dC, dI) vwCl [(m0, .inr (4, [.ref m1, .ref m2, .int (nI ((bk - 1) + 1)), .ref m3, .ref m4, .ref m5, .ref m6, .int sd, .ref m7, .ref m8, .int cl, .int pc, .int op])), (m1, .inl (km1, 93, .inl nw)), (m3, .inl (km3, 3720, .inl gg_8))] H := hP
    have hD : va_D A [(m0, .inr (4, [.ref m1, .ref m2, .int (nI ((bk - 1) + 1)), .ref m3, .ref m4, .ref m5, .ref m6, .int sd, .ref m7, .ref m8, .int cl, .int pc, .int op])), (m1, .inl (km1, 93, .inl nw)), (m3, .inl (km3, 3720, .inl gg_8))] := hD
    subst hQe
    have hP9 := hP.sub (ws' := [(m0, .inr (4, [.ref m1, .ref m2, .int (nI ((bk - 1) + 1)), .ref m3, .ref m4, .ref m5, .ref m6, .int sd, .ref m7, .ref m8, .int cl, .int pc, .int op])), (m1, .inl (km1, 93, .inl nw)), (m3, .inl (km3, 3720, .inl gg_8))]) [0, 1, 2] rfl
    have hD9 := hD.sub (ws' := [(m0, .inr (4, [.ref m1, .ref m2, .int (nI ((bk - 1) + 1)), .ref m3, .ref m4, .ref m5, .ref m6, .int sd, .ref m7, .ref m8, .int cl, .int pc, .int op])), (m1, .inl (km1, 93, .inl nw)), (m3, .inl (km3, 3720, .inl gg_8))]) [0, 1, 2] (by decide) rfl
    have hK9 := hK.sub (tys' := [(km1, .int), (km3, .int)]) [0, 1] rfl
    subst hAe
    exact W.vret hx hb hr (fun t ht hW => ⟨⟨(), rfl, trivial, ((bk - 1) + 1), gg_8, (by first | assumption | omega), (by first | assumption | omega), by rw [ht]; exact hP9, va_K.moved hW.alike hK9, hD9⟩, hS.F ht⟩) hS.2.2 dX4_note_67
set_option maxHeartbeats 4000000 in
set_option maxRecDepth 100000 in
theorem c_X4_addLaw (l : Launch) (dC : Nat → ClassId) (dI : Nat → Nat → Nat) (m0 m1 m3 m2 m4 m5 m6 m7 m8 : Nat) (km1 km3 : ClassId) (sz : Nat) (bk : Nat) (sd : Int32) (cl : Int32) (pc : Int32) (op : Int32) (nw : Nat → Int32) (bc : Nat → Int32) (f : Int32) (u : Int32) (kd : Int32) (a : Int32) (b : Int32) (i0 : bk ≤ 40) (i1 : okN nw) (i2 : okB 40 bc) (g0 : ∃ j : Nat, j < 12 ∧ nw 7 = nI j) : Met l yX4_addLaw wsX4_addLaw ({ frames := 2, cells := 0, slots := 0, locals := 45 }) (va_Pc [.ref m0, .int f, .int u, .int kd, .int a, .int b] (fun U => U.heap.size = sz ∧ va_P (dC, dI) vwCl [(m0, .inr (4, [.ref m1, .ref m2, .int (nI bk), .ref m3, .ref m4, .ref m5, .ref m6, .int sd, .ref m7, .ref m8, .int cl, .int pc, .int op])), (m1, .inl (km1, 93, .inl nw)), (m3, .inl (km3, 3720, .inl bc))] U.heap ∧ va_K (dC, dI) vwCl [(km1, .int), (km3, .int)] U ∧ va_D (fun _ => True) [(m0, .inr (4, [.ref m1, .ref m2, .int (nI bk), .ref m3, .ref m4, .ref m5, .ref m6, .int sd, .ref m7, .ref m8, .int cl, .int pc, .int op])), (m1, .inl (km1, 93, .inl nw)), (m3, .inl (km3, 3720, .inl bc))])) (va_Qv (fun _ : Unit => True) (fun _ t => ∃ (bk' : Nat) (bc' : Nat → Int32) (nw' : Nat → Int32), bk' ≤ 40 ∧ okN nw' ∧ okB 40 bc' ∧ va_P (dC, dI) vwCl [(m0, .inr (4, [.ref m1, .ref m2, .int (nI bk'), .ref m3, .ref m4, .ref m5, .ref m6, .int sd, .ref m7, .ref m8, .int cl, .int pc, .int op])), (m1, .inl (km1, 93, .inl nw')), (m3, .inl (km3, 3720, .inl bc'))] t.heap ∧ va_K (dC, dI) vwCl [(km1, .int), (km3, .int)] t ∧ va_D (va_A [(m0, .inr (4, [.ref m1, .ref m2, .int (nI bk), .ref m3, .ref m4, .ref m5, .ref m6, .int sd, .ref m7, .ref m8, .int cl, .int pc, .int op])), (m1, .inl (km1, 93, .inl nw)), (m3, .inl (km3, 3720, .inl bc))] sz) [(m0, .inr (4, [.ref m1, .ref m2, .int (nI bk'), .ref m3, .ref m4, .ref m5, .ref m6, .int sd, .ref m7, .ref m8, .int cl, .int pc, .int op])), (m1, .inl (km1, 93, .inl nw')), (m3, .inl (km3, 3720, .inl bc'))]) (va_A [(m0, .inr (4, [.ref m1, .ref m2, .int (nI bk), .ref m3, .ref m4, .ref m5, .ref m6, .int sd, .ref m7, .ref m8, .int cl, .int pc, .int op])), (m1, .inl (km1, 93, .inl nw)), (m3, .inl (km3, 3720, .inl bc))] sz)) 0 0 (va_A [(m0, .inr (4, [.ref m1, .ref m2, .int (nI bk), .ref m3, .ref m4, .ref m5, .ref m6, .int sd, .ref m7, .ref m8, .int cl, .int pc, .int op])), (m1, .inl (km1, 93, .inl nw)), (m3, .inl (km3, 3720, .inl bc))] sz) := by
  refine Met.ofW (cc := cX4_addLaw) (maxL := 7) (ret := none) (by decide) rfl ?_
  intro p e s m args below meth c s₁ B hml hv
  obtain ⟨rfl, hsz, hP, hK, hD0⟩ := hv
  have hx := B.exec
  have hb := B.bytes
  have hr := B.returns
  have hts := atoms_spec (ws := wsX4_addLaw) B.pre
  have hown : s.vm.findClass RX4 = some m.cls := findClass_of_methodNamed B.named
  have hlocks := B.notSynchronized
  have inX4 : ∀ w ∈ wsX40, w ∈ wsX4_addLaw := fun _ h => List.mem_cons_of_mem _ (List.mem_append_right _ h)
  subst hsz
  have hD := hD0.self (sz := s.heap.size)
  generalize hAe : va_A [(m0, .inr (4, [.ref m1, .ref m2, .int (nI bk), .ref m3, .ref m4, .ref m5, .ref m6, .int sd, .ref m7, .ref m8, .int cl, .int pc, .int op])), (m1, .inl (km1, 93, .inl nw)), (m3, .inl (km3, 3720, .inl bc))] s.heap.size = A at hD ⊢
  have hA : ∀ q : Nat, s.heap.size ≤ q → A q := fun q h => by rw [← hAe]; exact Or.inr h
  have hS : va_S A s.heap s.heap [] := va_S.rf
  have hl := lv_entry ([.ref m0, .int f, .int u, .int kd, .int a, .int b]) (n := 7) (Nat.le_of_ble_eq_true rfl)
  rw [lg_entry_eq]
  generalize (lg_sl ([.ref m0, .int f, .int u, .int kd, .int a, .int b]) ++ List.replicate (7 - (lg_sl ([.ref m0, .int f, .int u, .int kd, .int a, .int b])).length) Slot.unset).toArray = ls at hl ⊢
  generalize hQe : MQ below _ _ s 0 0 _ = Q
  generalize ([.ref m0, .int f, .int u, .int kd, .int a, .int b] : List Value).toArray = args at hts hQe ⊢
  have hl : lv_has ls 7 [(0, .ref m0), (1, .int f), (2, .int u), (3, .int kd), (4, .int a), (5, .int b)] := hl
  obtain ⟨lc, hlc, elc⟩ := g0
  refine lv_aload_n hx hb dX4_addLaw_0 rfl (lv_at hl 0 rfl) ?_
  have hPc := hP.sub (ws' := [(m0, .inr (4, [.ref m1, .ref m2, .int (nI bk), .ref m3, .ref m4, .ref m5, .ref m6, .int sd, .ref m7, .ref m8, .int cl, .int pc, .int op])), (m1, .inl (km1, 93, .inl nw)), (m3, .inl (km3, 3720, .inl bc))]) [0, 1, 2] rfl
  have hKc := hK.sub (tys' := [(km1, .int), (km3, .int)]) [0, 1] rfl
  have hDc := hD.sub (ws' := [(m0, .inr (4, [.ref m1, .ref m2, .int (nI bk), .ref m3, .ref m4, .ref m5, .ref m6, .int sd, .ref m7, .ref m8, .int cl, .int pc, .int op])), (m1, .inl (km1, 93, .inl nw)), (m3, .inl (km3, 3720, .inl bc))]) [0, 1, 2] (by decide) rfl
  have hFc := va_free (wc := [(m0, .inr (4, [.ref m1, .ref m2, .int (nI bk), .ref m3, .ref m4, .ref m5, .ref m6, .int sd, .ref m7, .ref m8, .int cl, .int pc, .int op])), (m1, .inl (km1, 93, .inl nw)), (m3, .inl (km3, 3720, .inl bc))]) hD hS hA [0, 1, 2] rfl
  refine va_callv (va_runV (As := []) (rest := []) ⟨hx, hb, hml, hown, hts⟩ (c_X4_note l dC dI m0 m1 m3 m2 m4 m5 m6 m7 m8 km1 km3 s.heap.size bk sd cl pc op nw bc  (by first | assumption | omega) (by first | assumption | omega) (by first | assumption | omega) ) (cwV 0 hts gX4_addLaw_X4_note rfl rfl rfl (by decide +kernel) ⟨Nat.le_of_ble_eq_true rfl, Nat.le_of_ble_eq_true rfl⟩) ⟨fun a U g mk q => by obtain ⟨q0, q1, qP, qK, qD⟩ := q; exact ⟨q0, q1, qP, va_K.moved (u := U) (U := U.calling g mk a) (Vm.Alike.refl U.vm) qK, qD⟩, va_recv hKc hPc (ci := 4) (q0 := 0) rfl rfl, fun U hU hW => ⟨rfl, by rw [hU], by rw [hU]; exact hPc, va_K.moved hW.alike hKc, hDc.weaken (fun _ _ _ _ => trivial)⟩⟩ rfl rfl hl.1 rfl (lv_room (Nat.le_of_ble_eq_true rfl)) dX4_addLaw_1 ⟨Nat.le_of_ble_eq_true rfl, Nat.le_of_ble_eq_true rfl⟩) hS (fun q _ h => hFc q h) hFc (fun u9 t9 H1 locs ht hvm hw hB hz1 hk1 hS => ?_)
  refine W.widen (k := 0) (n := 0) (Nat.le_of_ble_eq_true rfl) (Nat.le_of_ble_eq_true rfl) ?_
  obtain ⟨⟩ := u9
  obtain ⟨bk_2, bc_3, h_4, h_5, hP1, hK1, hD1⟩ := hB
  rw [ht] at hP1
  obtain ⟨hP, hD⟩ := va_join (wr := []) (w1 := [(m0, .inr (4, [.ref m1, .ref m2, .int (nI bk_2), .ref m3, .ref m4, .ref m5, .ref m6, .int sd, .ref m7, .ref m8, .int cl, .int pc, .int op])), (m1, .inl (km1, 93, .inl nw)), (m3, .inl (km3, 3720, .inl bc_3))]) hP hD [0, 1, 2] [] rfl rfl (by decide) (by decide) hk1 hFc hP1 hD1
  clear hPc hDc hKc hFc hz1 hk1 ht hvm hP1 hK1 hD1 hw t9
  generalize H1 = H at hP hS ⊢
  have hP := hP.sub (ws' := [(m0, .inr (4, [.ref m1, .ref m2, .int (nI bk_2), .ref m3, .ref m4, .ref m5, .ref m6, .int sd, .ref m7, .ref m8, .int cl, .int pc, .int op])), (m1, .inl (km1, 93, .inl nw)), (m3, .inl (km3, 3720, .inl bc_3))]) [0, 1, 2] rfl
  have hD := hD.sub (ws' := [(m0, .inr (4, [.ref m1, .ref m2, .int (nI bk_2), .ref m3, .ref m4, .ref m5, .ref m6, .int sd, .ref m7, .ref m8, .int cl, .int pc, .int op])), (m1, .inl (km1, 93, .inl nw)), (m3, .inl (km3, 3720, .inl bc_3))]) [0, 1, 2] (by decide) rfl
  refine lv_bipush (v := nI 8) hx hb dX4_addLaw_4 (by decide) ?_
  refine lv_iconst (v := nI 5) hx hb dX4_addLaw_6 (by decide) ?_
  refine lv_aload_n hx hb dX4_addLaw_7 rfl (lv_at hl 0 rfl) ?_
  refine va_get (D := (dC, dI)) (ci := 4) (v := .ref m1) (C := RX4) (T := TX4) (N := 13) hx hb hts inX4 hown hK hP 0 rfl rfl 0 (by decide) (hts (.fieldLink RX4 7 "StoreSlopesModel" "now" "[I") (List.mem_of_getElem? (i := 1) rfl)) (fun _ h9 => h9) rfl dX4_addLaw_8 ?_
  refine lv_bipush (v := nI 7) hx hb dX4_addLaw_11 (by decide) ?_
  refine va_iald hx hb hK hP 1 0 rfl rfl (vp_in_nI (show 7 < 93 by omega) (by omega)) dX4_addLaw_13 ?_
  refine tp_as (cl_as (by omega) elc) ?_
  refine lv_imul hx hb dX4_addLaw_14 ?_
  refine tp_as (pk_mul 5 lc) ?_
  refine lv_iadd hx hb dX4_addLaw_15 ?_
  refine tp_as (nI_add 8 (5 * lc)) ?_
  refine lv_istore (lv' := [(6, .int (nI (8 + (5 * lc)))), (0, .ref m0), (1, .int f), (2, .int u), (3, .int kd), (4, .int a), (5, .int b)]) hx hb dX4_addLaw_16 hl (by decide) rfl (fun ls hl => ?_)
  refine lv_aload_n hx hb dX4_addLaw_18 rfl (lv_at hl 1 rfl) ?_
  refine va_get (D := (dC, dI)) (ci := 4) (v := .ref m1) (C := RX4) (T := TX4) (N := 13) hx hb hts inX4 hown hK hP 0 rfl rfl 0 (by decide) (hts (.fieldLink RX4 7 "StoreSlopesModel" "now" "[I") (List.mem_of_getElem? (i := 1) rfl)) (fun _ h9 => h9) rfl dX4_addLaw_19 ?_
  refine lv_iload hx hb dX4_addLaw_22 (lv_at hl 0 rfl) ?_
  refine lv_iload_n hx hb dX4_addLaw_24 rfl (lv_at hl 2 rfl) ?_
  refine va_iast hx hb hK hP hD hS 1 0 rfl rfl (vp_in_nI (show 8 + (5 * lc) < 93 by omega) (by omega)) dX4_addLaw_25 (fun H locs hP hD hS => ?_)
  have hP : va_P (dC, dI) vwCl [(m0, .inr (4, [.ref m1, .ref m2, .int (nI bk_2), .ref m3, .ref m4, .ref m5, .ref m6, .int sd, .ref m7, .ref m8, .int cl, .int pc, .int op])), (m1, .inl (km1, 93, .inl (upd nw (nI (8 + (5 * lc))).toNatClampNeg (f)))), (m3, .inl (km3, 3720, .inl bc_3))] H := hP
  have hD : va_D A [(m0, .inr (4, [.ref m1, .ref m2, .int (nI bk_2), .ref m3, .ref m4, .ref m5, .ref m6, .int sd, .ref m7, .ref m8, .int cl, .int pc, .int op])), (m1, .inl (km1, 93, .inl (upd nw (nI (8 + (5 * lc))).toNatClampNeg (f)))), (m3, .inl (km3, 3720, .inl bc_3))] := hD
  generalize ef_6 : upd nw (nI (8 + (5 * lc))).toNatClampNeg (f) = f_6 at hP hD
  have bf_6 : okN f_6 := okN_upd (by assumption) ef_6 (by omega) (by refine ⟨fun q => ?_, fun q => ?_, fun q => ?_, fun q => ?_, fun q => ?_, fun q q2 => ?_⟩ <;> first | (exfalso; omega) | exact ⟨_, by omega, rfl⟩)
  have s7_f_6 : f_6 7 = nw 7 := upd_at ef_6 (by omega) (by omega)
  clear ef_6
  refine lv_aload_n hx hb dX4_addLaw_26 rfl (lv_at hl 1 rfl) ?_
  refine va_get (D := (dC, dI)) (ci := 4) (v := .ref m1) (C := RX4) (T := TX4) (N := 13) hx hb hts inX4 hown hK hP 0 rfl rfl 0 (by decide) (hts (.fieldLink RX4 7 "StoreSlopesModel" "now" "[I") (List.mem_of_getElem? (i := 1) rfl)) (fun _ h9 => h9) rfl dX4_addLaw_27 ?_
  refine lv_iload hx hb dX4_addLaw_30 (lv_at hl 0 rfl) ?_
  refine lv_iconst (v := nI 1) hx hb dX4_addLaw_32 (by decide) ?_
  refine lv_iadd hx hb dX4_addLaw_33 ?_
  refine tp_as (nI_add (8 + (5 * lc)) 1) ?_
  refine lv_iload_n hx hb dX4_addLaw_34 rfl (lv_at hl 3 rfl) ?_
  refine va_iast hx hb hK hP hD hS 1 0 rfl rfl (vp_in_nI (show (8 + (5 * lc)) + 1 < 93 by omega) (by omega)) dX4_addLaw_35 (fun H locs hP hD hS => ?_)
  have hP : va_P (dC, dI) vwCl [(m0, .inr (4, [.ref m1, .ref m2, .int (nI bk_2), .ref m3, .ref m4, .ref m5, .ref m6, .int sd, .ref m7, .ref m8, .int cl, .int pc, .int op])), (m1, .inl (km1, 93, .inl (upd f_6 (nI ((8 + (5 * lc)) + 1)).toNatClampNeg (u)))), (m3, .inl (km3, 3720, .inl bc_3))] H := hP
  have hD : va_D A [(m0, .inr (4, [.ref m1, .ref m2, .int (nI bk_2), .ref m3, .ref m4, .ref m5, .ref m6, .int sd, .ref m7, .ref m8, .int cl, .int pc, .int op])), (m1, .inl (km1, 93, .inl (upd f_6 (nI ((8 + (5 * lc)) + 1)).toNatClampNeg (u)))), (m3, .inl (km3, 3720, .inl bc_3))] := hD
  generalize ef_7 : upd f_6 (nI ((8 + (5 * lc)) + 1)).toNatClampNeg (u) = f_7 at hP hD
  have bf_7 : okN f_7 := okN_upd (by assumption) ef_7 (by omega) (by refine ⟨fun q => ?_, fun q => ?_, fun q => ?_, fun q => ?_, fun q => ?_, fun q q2 => ?_⟩ <;> first | (exfalso; omega) | exact ⟨_, by omega, rfl⟩)
  have s7_f_7 : f_7 7 = f_6 7 := upd_at ef_7 (by omega) (by omega)
  clear ef_7
  refine lv_aload_n hx hb dX4_addLaw_36 rfl (lv_at hl 1 rfl) ?_
  refine va_get (D := (dC, dI)) (ci := 4) (v := .ref m1) (C := RX4) (T := TX4) (N := 13) hx hb hts inX4 hown hK hP 0 rfl rfl 0 (by decide) (hts (.fieldLink RX4 7 "StoreSlopesModel" "now" "[I") (List.mem_of_getElem? (i := 1) rfl)) (fun _ h9 => h9) rfl dX4_addLaw_37 ?_
  refine lv_iload hx hb dX4_addLaw_40 (lv_at hl 0 rfl) ?_
  refine lv_iconst (v := nI 2) hx hb dX4_addLaw_42 (by decide) ?_
  refine lv_iadd hx hb dX4_addLaw_43 ?_
  refine tp_as (nI_add (8 + (5 * lc)) 2) ?_
  refine lv_iload_n hx hb dX4_addLaw_44 rfl (lv_at hl 4 rfl) ?_
  refine va_iast hx hb hK hP hD hS 1 0 rfl rfl (vp_in_nI (show (8 + (5 * lc)) + 2 < 93 by omega) (by omega)) dX4_addLaw_45 (fun H locs hP hD hS => ?_)
  have hP : va_P (dC, dI) vwCl [(m0, .inr (4, [.ref m1, .ref m2, .int (nI bk_2), .ref m3, .ref m4, .ref m5, .ref m6, .int sd, .ref m7, .ref m8, .int cl, .int pc, .int op])), (m1, .inl (km1, 93, .inl (upd f_7 (nI ((8 + (5 * lc)) + 2)).toNatClampNeg (kd)))), (m3, .inl (km3, 3720, .inl bc_3))] H := hP
  have hD : va_D A [(m0, .inr (4, [.ref m1, .ref m2, .int (nI bk_2), .ref m3, .ref m4, .ref m5, .ref m6, .int sd, .ref m7, .ref m8, .int cl, .int pc, .int op])), (m1, .inl (km1, 93, .inl (upd f_7 (nI ((8 + (5 * lc)) + 2)).toNatClampNeg (kd)))), (m3, .inl (km3, 3720, .inl bc_3))] := hD
  generalize ef_8 : upd f_7 (nI ((8 + (5 * lc)) + 2)).toNatClampNeg (kd) = f_8 at hP hD
  have bf_8 : okN f_8 := okN_upd (by assumption) ef_8 (by omega) (by refine ⟨fun q => ?_, fun q => ?_, fun q => ?_, fun q => ?_, fun q => ?_, fun q q2 => ?_⟩ <;> first | (exfalso; omega) | exact ⟨_, by omega, rfl⟩)
  have s7_f_8 : f_8 7 = f_7 7 := upd_at ef_8 (by omega) (by omega)
  clear ef_8
  refine lv_aload_n hx hb dX4_addLaw_46 rfl (lv_at hl 1 rfl) ?_
  refine va_get (D := (dC, dI)) (ci := 4) (v := .ref m1) (C := RX4) (T := TX4) (N := 13) hx hb hts inX4 hown hK hP 0 rfl rfl 0 (by decide) (hts (.fieldLink RX4 7 "StoreSlopesModel" "now" "[I") (List.mem_of_getElem? (i := 1) rfl)) (fun _ h9 => h9) rfl dX4_addLaw_47 ?_
  refine lv_iload hx hb dX4_addLaw_50 (lv_at hl 0 rfl) ?_
  refine lv_iconst (v := nI 3) hx hb dX4_addLaw_52 (by decide) ?_
  refine lv_iadd hx hb dX4_addLaw_53 ?_
  refine tp_as (nI_add (8 + (5 * lc)) 3) ?_
  refine lv_iload hx hb dX4_addLaw_54 (lv_at hl 5 rfl) ?_
  refine va_iast hx hb hK hP hD hS 1 0 rfl rfl (vp_in_nI (show (8 + (5 * lc)) + 3 < 93 by omega) (by omega)) dX4_addLaw_56 (fun H locs hP hD hS => ?_)
  have hP : va_P (dC, dI) vwCl [(m0, .inr (4, [.ref m1, .ref m2, .int (nI bk_2), .ref m3, .ref m4, .ref m5, .ref m6, .int sd, .ref m7, .ref m8, .int cl, .int pc, .int op])), (m1, .inl (km1, 93, .inl (upd f_8 (nI ((8 + (5 * lc)) + 3)).toNatClampNeg (a)))), (m3, .inl (km3, 3720, .inl bc_3))] H := hP
  have hD : va_D A [(m0, .inr (4, [.ref m1, .ref m2, .int (nI bk_2), .ref m3, .ref m4, .ref m5, .ref m6, .int sd, .ref m7, .ref m8, .int cl, .int pc, .int op])), (m1, .inl (km1, 93, .inl (upd f_8 (nI ((8 + (5 * lc)) + 3)).toNatClampNeg (a)))), (m3, .inl (km3, 3720, .inl bc_3))] := hD
  generalize ef_9 : upd f_8 (nI ((8 + (5 * lc)) + 3)).toNatClampNeg (a) = f_9 at hP hD
  have bf_9 : okN f_9 := okN_upd (by assumption) ef_9 (by omega) (by refine ⟨fun q => ?_, fun q => ?_, fun q => ?_, fun q => ?_, fun q => ?_, fun q q2 => ?_⟩ <;> first | (exfalso; omega) | exact ⟨_, by omega, rfl⟩)
  have s7_f_9 : f_9 7 = f_8 7 := upd_at ef_9 (by omega) (by omega)
  clear ef_9
  refine lv_aload_n hx hb dX4_addLaw_57 rfl (lv_at hl 1 rfl) ?_
  refine va_get (D := (dC, dI)) (ci := 4) (v := .ref m1) (C := RX4) (T := TX4) (N := 13) hx hb hts inX4 hown hK hP 0 rfl rfl 0 (by decide) (hts (.fieldLink RX4 7 "StoreSlopesModel" "now" "[I") (List.mem_of_getElem? (i := 1) rfl)) (fun _ h9 => h9) rfl dX4_addLaw_58 ?_
  refine lv_iload hx hb dX4_addLaw_61 (lv_at hl 0 rfl) ?_
  refine lv_iconst (v := nI 4) hx hb dX4_addLaw_63 (by decide) ?_
  refine lv_iadd hx hb dX4_addLaw_64 ?_
  refine tp_as (nI_add (8 + (5 * lc)) 4) ?_
  refine lv_iload hx hb dX4_addLaw_65 (lv_at hl 6 rfl) ?_
  refine va_iast hx hb hK hP hD hS 1 0 rfl rfl (vp_in_nI (show (8 + (5 * lc)) + 4 < 93 by omega) (by omega)) dX4_addLaw_67 (fun H locs hP hD hS => ?_)
  have hP : va_P (dC, dI) vwCl [(m0, .inr (4, [.ref m1, .ref m2, .int (nI bk_2), .ref m3, .ref m4, .ref m5, .ref m6, .int sd, .ref m7, .ref m8, .int cl, .int pc, .int op])), (m1, .inl (km1, 93, .inl (upd f_9 (nI ((8 + (5 * lc)) + 4)).toNatClampNeg (b)))), (m3, .inl (km3, 3720, .inl bc_3))] H := hP
  have hD : va_D A [(m0, .inr (4, [.ref m1, .ref m2, .int (nI bk_2), .ref m3, .ref m4, .ref m5, .ref m6, .int sd, .ref m7, .ref m8, .int cl, .int pc, .int op])), (m1, .inl (km1, 93, .inl (upd f_9 (nI ((8 + (5 * lc)) + 4)).toNatClampNeg (b)))), (m3, .inl (km3, 3720, .inl bc_3))] := hD
  generalize ef_10 : upd f_9 (nI ((8 + (5 * lc)) + 4)).toNatClampNeg (b) = f_10 at hP hD
  have bf_10 : okN f_10 := okN_upd (by assumption) ef_10 (by omega) (by refine ⟨fun q => ?_, fun q => ?_, fun q => ?_, fun q => ?_, fun q => ?_, fun q q2 => ?_⟩ <;> first | (exfalso; omega) | exact ⟨_, by omega, rfl⟩)
  have s7_f_10 : f_10 7 = f_9 7 := upd_at ef_10 (by omega) (by omega)
  clear ef_10
  refine lv_aload_n hx hb dX4_addLaw_68 rfl (lv_at hl 1 rfl) ?_
  refine va_get (D := (dC, dI)) (ci := 4) (v := .ref m1) (C := RX4) (T := TX4) (N := 13) hx hb hts inX4 hown hK hP 0 rfl rfl 0 (by decide) (hts (.fieldLink RX4 7 "StoreSlopesModel" "now" "[I") (List.mem_of_getElem? (i := 1) rfl)) (fun _ h9 => h9) rfl dX4_addLaw_69 ?_
  refine lv_bipush (v := nI 7) hx hb dX4_addLaw_72 (by decide) ?_
  refine lv_dup2_11 hx hb dX4_addLaw_74 rfl rfl ?_
  refine va_iald hx hb hK hP 1 0 rfl rfl (vp_in_nI (show 7 < 93 by omega) (by omega)) dX4_addLaw_75 ?_
  refine tp_as (cl_as (by omega) (s7_f_10.trans (s7_f_9.trans (s7_f_8.trans (s7_f_7.trans (s7_f_6.trans elc)))))) ?_
  refine lv_iconst (v := nI 1) hx hb dX4_addLaw_76 (by decide) ?_
  refine lv_iadd hx hb dX4_addLaw_77 ?_
  refine tp_as (nI_add lc 1) ?_
  refine va_iast hx hb hK hP hD hS 1 0 rfl rfl (vp_in_nI (show 7 < 93 by omega) (by omega)) dX4_addLaw_78 (fun H locs hP hD hS => ?_)
  have hP : va_P (dC, dI) vwCl [(m0, .inr (4, [.ref m1, .ref m2, .int (nI bk_2), .ref m3, .ref m4, .ref m5, .ref m6, .int sd, .ref m7, .ref m8, .int cl, .int pc, .int op])), (m1, .inl (km1, 93, .inl (upd f_10 (nI 7).toNatClampNeg (nI (lc + 1))))), (m3, .inl (km3, 3720, .inl bc_3))] H := hP
  have hD : va_D A [(m0, .inr (4, [.ref m1, .ref m2, .int (nI bk_2), .ref m3, .ref m4, .ref m5, .ref m6, .int sd, .ref m7, .ref m8, .int cl, .int pc, .int op])), (m1, .inl (km1, 93, .inl (upd f_10 (nI 7).toNatClampNeg (nI (lc + 1))))), (m3, .inl (km3, 3720, .inl bc_3))] := hD
  generalize ef_11 : upd f_10 (nI 7).toNatClampNeg (nI (lc + 1)) = f_11 at hP hD
  have bf_11 : okN f_11 := okN_upd (by assumption) ef_11 (by omega) (by refine ⟨fun q => ?_, fun q => ?_, fun q => ?_, fun q => ?_, fun q => ?_, fun q q2 => ?_⟩ <;> first | (exfalso; omega) | exact ⟨_, by omega, rfl⟩)
  clear ef_11
  subst hQe
  have hP9 := hP.sub (ws' := [(m0, .inr (4, [.ref m1, .ref m2, .int (nI bk_2), .ref m3, .ref m4, .ref m5, .ref m6, .int sd, .ref m7, .ref m8, .int cl, .int pc, .int op])), (m1, .inl (km1, 93, .inl f_11)), (m3, .inl (km3, 3720, .inl bc_3))]) [0, 1, 2] rfl
  have hD9 := hD.sub (ws' := [(m0, .inr (4, [.ref m1, .ref m2, .int (nI bk_2), .ref m3, .ref m4, .ref m5, .ref m6, .int sd, .ref m7, .ref m8, .int cl, .int pc, .int op])), (m1, .inl (km1, 93, .inl f_11)), (m3, .inl (km3, 3720, .inl bc_3))]) [0, 1, 2] (by decide) rfl
  have hK9 := hK.sub (tys' := [(km1, .int), (km3, .int)]) [0, 1] rfl
  subst hAe
  exact W.vret hx hb hr (fun t ht hW => ⟨⟨(), rfl, trivial, bk_2, bc_3, f_11, (by first | assumption | omega), (by first | assumption | omega), (by first | assumption | omega), by rw [ht]; exact hP9, va_K.moved hW.alike hK9, hD9⟩, hS.F ht⟩) hS.2.2 dX4_addLaw_79
set_option maxHeartbeats 4000000 in
set_option maxRecDepth 100000 in
theorem c_X4_becomes (l : Launch) (dC : Nat → ClassId) (dI : Nat → Nat → Nat) (m0 m1 m3 m7 m2 m4 m5 m6 m8 : Nat) (km1 km3 km7 : ClassId) (sz : Nat) (bk : Nat) (sd : Int32) (cl : Int32) (pc : Int32) (op : Int32) (nw : Nat → Int32) (bc : Nat → Int32) (vl : Nat → Int32) (w : Nat) (v : Int32) (i0 : bk ≤ 40) (i1 : okN nw) (i2 : okB 40 bc) (g0 : okW w v) (g1 : w < 68) : Met l yX4_becomes wsX4_becomes ({ frames := 7, cells := 0, slots := 0, locals := 162 }) (va_Pc [.ref m0, .int (nI w), .int v] (fun U => U.heap.size = sz ∧ va_P (dC, dI) vwCl [(m0, .inr (4, [.ref m1, .ref m2, .int (nI bk), .ref m3, .ref m4, .ref m5, .ref m6, .int sd, .ref m7, .ref m8, .int cl, .int pc, .int op])), (m1, .inl (km1, 93, .inl nw)), (m3, .inl (km3, 3720, .inl bc)), (m7, .inl (km7, 1525, .inl vl))] U.heap ∧ va_K (dC, dI) vwCl [(km1, .int), (km3, .int), (km7, .int)] U ∧ va_D (fun _ => True) [(m0, .inr (4, [.ref m1, .ref m2, .int (nI bk), .ref m3, .ref m4, .ref m5, .ref m6, .int sd, .ref m7, .ref m8, .int cl, .int pc, .int op])), (m1, .inl (km1, 93, .inl nw)), (m3, .inl (km3, 3720, .inl bc)), (m7, .inl (km7, 1525, .inl vl))])) (va_Qi (fun (r u : Int32) => u = r) (fun r t => ∃ (bk' : Nat) (bc' : Nat → Int32) (nw' : Nat → Int32) (vl' : Nat → Int32), bk' ≤ 40 ∧ okN nw' ∧ okB 40 bc' ∧ va_P (dC, dI) vwCl [(m0, .inr (4, [.ref m1, .ref m2, .int (nI bk'), .ref m3, .ref m4, .ref m5, .ref m6, .int sd, .ref m7, .ref m8, .int cl, .int pc, .int op])), (m1, .inl (km1, 93, .inl nw')), (m3, .inl (km3, 3720, .inl bc')), (m7, .inl (km7, 1525, .inl vl'))] t.heap ∧ va_K (dC, dI) vwCl [(km1, .int), (km3, .int), (km7, .int)] t ∧ va_D (va_A [(m0, .inr (4, [.ref m1, .ref m2, .int (nI bk), .ref m3, .ref m4, .ref m5, .ref m6, .int sd, .ref m7, .ref m8, .int cl, .int pc, .int op])), (m1, .inl (km1, 93, .inl nw)), (m3, .inl (km3, 3720, .inl bc)), (m7, .inl (km7, 1525, .inl vl))] sz) [(m0, .inr (4, [.ref m1, .ref m2, .int (nI bk'), .ref m3, .ref m4, .ref m5, .ref m6, .int sd, .ref m7, .ref m8, .int cl, .int pc, .int op])), (m1, .inl (km1, 93, .inl nw')), (m3, .inl (km3, 3720, .inl bc')), (m7, .inl (km7, 1525, .inl vl'))]) (va_A [(m0, .inr (4, [.ref m1, .ref m2, .int (nI bk), .ref m3, .ref m4, .ref m5, .ref m6, .int sd, .ref m7, .ref m8, .int cl, .int pc, .int op])), (m1, .inl (km1, 93, .inl nw)), (m3, .inl (km3, 3720, .inl bc)), (m7, .inl (km7, 1525, .inl vl))] sz)) 0 0 (va_A [(m0, .inr (4, [.ref m1, .ref m2, .int (nI bk), .ref m3, .ref m4, .ref m5, .ref m6, .int sd, .ref m7, .ref m8, .int cl, .int pc, .int op])), (m1, .inl (km1, 93, .inl nw)), (m3, .inl (km3, 3720, .inl bc)), (m7, .inl (km7, 1525, .inl vl))] sz) := by
  refine Met.ofW (cc := cX4_becomes) (maxL := 3) (ret := (some .int)) (by decide) rfl ?_
  intro p e s m args below meth c s₁ B hml hv
  obtain ⟨rfl, hsz, hP, hK, hD0⟩ := hv
  have hx := B.exec
  have hb := B.bytes
  have hr := B.returns
  have hts := atoms_spec (ws := wsX4_becomes) B.pre
  have hown : s.vm.findClass RX4 = some m.cls := findClass_of_methodNamed B.named
  have hlocks := B.notSynchronized
  have inX4 : ∀ w ∈ wsX40, w ∈ wsX4_becomes := fun _ h => List.mem_cons_of_mem _ (List.mem_append_right _ h)
  subst hsz
  have hD := hD0.self (sz := s.heap.size)
  generalize hAe : va_A [(m0, .inr (4, [.ref m1, .ref m2, .int (nI bk), .ref m3, .ref m4, .ref m5, .ref m6, .int sd, .ref m7, .ref m8, .int cl, .int pc, .int op])), (m1, .inl (km1, 93, .inl nw)), (m3, .inl (km3, 3720, .inl bc)), (m7, .inl (km7, 1525, .inl vl))] s.heap.size = A at hD ⊢
  have hA : ∀ q : Nat, s.heap.size ≤ q → A q := fun q h => by rw [← hAe]; exact Or.inr h
  have hS : va_S A s.heap s.heap [] := va_S.rf
  have hl := lv_entry ([.ref m0, .int (nI w), .int v]) (n := 3) (Nat.le_of_ble_eq_true rfl)
  rw [lg_entry_eq]
  generalize (lg_sl ([.ref m0, .int (nI w), .int v]) ++ List.replicate (3 - (lg_sl ([.ref m0, .int (nI w), .int v])).length) Slot.unset).toArray = ls at hl ⊢
  generalize hQe : MQ below _ _ s 0 0 _ = Q
  generalize ([.ref m0, .int (nI w), .int v] : List Value).toArray = args at hts hQe ⊢
  have hl : lv_has ls 3 [(0, .ref m0), (1, .int (nI w)), (2, .int v)] := hl
  refine lv_aload_n hx hb dX4_becomes_0 rfl (lv_at hl 0 rfl) ?_
  have hPc := hP.sub (ws' := [(m0, .inr (4, [.ref m1, .ref m2, .int (nI bk), .ref m3, .ref m4, .ref m5, .ref m6, .int sd, .ref m7, .ref m8, .int cl, .int pc, .int op])), (m1, .inl (km1, 93, .inl nw)), (m3, .inl (km3, 3720, .inl bc))]) [0, 1, 2] rfl
  have hKc := hK.sub (tys' := [(km1, .int), (km3, .int)]) [0, 1] rfl
  have hDc := hD.sub (ws' := [(m0, .inr (4, [.ref m1, .ref m2, .int (nI bk), .ref m3, .ref m4, .ref m5, .ref m6, .int sd, .ref m7, .ref m8, .int cl, .int pc, .int op])), (m1, .inl (km1, 93, .inl nw)), (m3, .inl (km3, 3720, .inl bc))]) [0, 1, 2] (by decide) rfl
  have hFc := va_free (wc := [(m0, .inr (4, [.ref m1, .ref m2, .int (nI bk), .ref m3, .ref m4, .ref m5, .ref m6, .int sd, .ref m7, .ref m8, .int cl, .int pc, .int op])), (m1, .inl (km1, 93, .inl nw)), (m3, .inl (km3, 3720, .inl bc))]) hD hS hA [0, 1, 2] rfl
  refine va_callv (va_runV (As := []) (rest := []) ⟨hx, hb, hml, hown, hts⟩ (c_X4_note l dC dI m0 m1 m3 m2 m4 m5 m6 m7 m8 km1 km3 s.heap.size bk sd cl pc op nw bc  (by first | assumption | omega) (by first | assumption | omega) (by first | assumption | omega) ) (cwV 0 hts gX4_becomes_X4_note rfl rfl rfl (by decide +kernel) ⟨Nat.le_of_ble_eq_true rfl, Nat.le_of_ble_eq_true rfl⟩) ⟨fun a U g mk q => by obtain ⟨q0, q1, qP, qK, qD⟩ := q; exact ⟨q0, q1, qP, va_K.moved (u := U) (U := U.calling g mk a) (Vm.Alike.refl U.vm) qK, qD⟩, va_recv hKc hPc (ci := 4) (q0 := 0) rfl rfl, fun U hU hW => ⟨rfl, by rw [hU], by rw [hU]; exact hPc, va_K.moved hW.alike hKc, hDc.weaken (fun _ _ _ _ => trivial)⟩⟩ rfl rfl hl.1 rfl (lv_room (Nat.le_of_ble_eq_true rfl)) dX4_becomes_1 ⟨Nat.le_of_ble_eq_true rfl, Nat.le_of_ble_eq_true rfl⟩) hS (fun q _ h => hFc q h) hFc (fun u9 t9 H1 locs ht hvm hw hB hz1 hk1 hS => ?_)
  refine W.widen (k := 0) (n := 0) (Nat.le_of_ble_eq_true rfl) (Nat.le_of_ble_eq_true rfl) ?_
  obtain ⟨⟩ := u9
  obtain ⟨bk_2, bc_3, h_4, h_5, hP1, hK1, hD1⟩ := hB
  rw [ht] at hP1
  obtain ⟨hP, hD⟩ := va_join (wr := [(m7, .inl (km7, 1525, .inl vl))]) (w1 := [(m0, .inr (4, [.ref m1, .ref m2, .int (nI bk_2), .ref m3, .ref m4, .ref m5, .ref m6, .int sd, .ref m7, .ref m8, .int cl, .int pc, .int op])), (m1, .inl (km1, 93, .inl nw)), (m3, .inl (km3, 3720, .inl bc_3))]) hP hD [0, 1, 2] [3] rfl rfl (by decide) (by decide) hk1 hFc hP1 hD1
  clear hPc hDc hKc hFc hz1 hk1 ht hvm hP1 hK1 hD1 hw t9
  generalize H1 = H at hP hS ⊢
  have hP := hP.sub (ws' := [(m0, .inr (4, [.ref m1, .ref m2, .int (nI bk_2), .ref m3, .ref m4, .ref m5, .ref m6, .int sd, .ref m7, .ref m8, .int cl, .int pc, .int op])), (m1, .inl (km1, 93, .inl nw)), (m3, .inl (km3, 3720, .inl bc_3)), (m7, .inl (km7, 1525, .inl vl))]) [1, 2, 3, 0] rfl
  have hD := hD.sub (ws' := [(m0, .inr (4, [.ref m1, .ref m2, .int (nI bk_2), .ref m3, .ref m4, .ref m5, .ref m6, .int sd, .ref m7, .ref m8, .int cl, .int pc, .int op])), (m1, .inl (km1, 93, .inl nw)), (m3, .inl (km3, 3720, .inl bc_3)), (m7, .inl (km7, 1525, .inl vl))]) [1, 2, 3, 0] (by decide) rfl
  refine lv_aload_n hx hb dX4_becomes_4 rfl (lv_at hl 0 rfl) ?_
  refine va_get (D := (dC, dI)) (ci := 4) (v := .ref m1) (C := RX4) (T := TX4) (N := 13) hx hb hts inX4 hown hK hP 0 rfl rfl 0 (by decide) (hts (.fieldLink RX4 7 "StoreSlopesModel" "now" "[I") (List.mem_of_getElem? (i := 1) rfl)) (fun _ h9 => h9) rfl dX4_becomes_5 ?_
  refine lv_iload_n hx hb dX4_becomes_8 rfl (lv_at hl 1 rfl) ?_
  refine lv_iload_n hx hb dX4_becomes_9 rfl (lv_at hl 2 rfl) ?_
  refine va_iast hx hb hK hP hD hS 1 0 rfl rfl (vp_in_nI (show w < 93 by omega) (by omega)) dX4_becomes_10 (fun H locs hP hD hS => ?_)
  have hP : va_P (dC, dI) vwCl [(m0, .inr (4, [.ref m1, .ref m2, .int (nI bk_2), .ref m3, .ref m4, .ref m5, .ref m6, .int sd, .ref m7, .ref m8, .int cl, .int pc, .int op])), (m1, .inl (km1, 93, .inl (upd nw (nI w).toNatClampNeg (v)))), (m3, .inl (km3, 3720, .inl bc_3)), (m7, .inl (km7, 1525, .inl vl))] H := hP
  have hD : va_D A [(m0, .inr (4, [.ref m1, .ref m2, .int (nI bk_2), .ref m3, .ref m4, .ref m5, .ref m6, .int sd, .ref m7, .ref m8, .int cl, .int pc, .int op])), (m1, .inl (km1, 93, .inl (upd nw (nI w).toNatClampNeg (v)))), (m3, .inl (km3, 3720, .inl bc_3)), (m7, .inl (km7, 1525, .inl vl))] := hD
  generalize ef_6 : upd nw (nI w).toNatClampNeg (v) = f_6 at hP hD
  have bf_6 : okN f_6 := okN_upd (by assumption) ef_6 (by omega) g0
  refine lv_aload_n hx hb dX4_becomes_11 rfl (lv_at hl 0 rfl) ?_
  have hPc := hP.sub (ws' := [(m0, .inr (4, [.ref m1, .ref m2, .int (nI bk_2), .ref m3, .ref m4, .ref m5, .ref m6, .int sd, .ref m7, .ref m8, .int cl, .int pc, .int op])), (m1, .inl (km1, 93, .inl f_6)), (m7, .inl (km7, 1525, .inl vl))]) [0, 1, 3] rfl
  have hKc := hK.sub (tys' := [(km1, .int), (km7, .int)]) [0, 2] rfl
  have hDc := hD.sub (ws' := [(m0, .inr (4, [.ref m1, .ref m2, .int (nI bk_2), .ref m3, .ref m4, .ref m5, .ref m6, .int sd, .ref m7, .ref m8, .int cl, .int pc, .int op])), (m1, .inl (km1, 93, .inl f_6)), (m7, .inl (km7, 1525, .inl vl))]) [0, 1, 3] (by decide) rfl
  have hFc := va_free (wc := [(m0, .inr (4, [.ref m1, .ref m2, .int (nI bk_2), .ref m3, .ref m4, .ref m5, .ref m6, .int sd, .ref m7, .ref m8, .int cl, .int pc, .int op])), (m1, .inl (km1, 93, .inl f_6)), (m7, .inl (km7, 1525, .inl vl))]) hD hS hA [0, 1, 3] rfl
  refine va_calli (va_runV (As := []) (rest := []) ⟨hx, hb, hml, hown, hts⟩ (c_X4_bestOf l dC dI m0 m1 m7 m2 m3 m4 m5 m6 m8 km1 km7 H.size bk_2 sd cl pc op f_6 vl  (by first | assumption | omega) (by first | assumption | omega) ) (cwV 0 hts gX4_becomes_X4_bestOf rfl rfl rfl (by decide +kernel) ⟨Nat.le_of_ble_eq_true rfl, Nat.le_of_ble_eq_true rfl⟩) ⟨fun a U g mk q => by obtain ⟨q0, q1, qP, qK, qD⟩ := q; exact ⟨q0, q1, qP, va_K.moved (u := U) (U := U.calling g mk a) (Vm.Alike.refl U.vm) qK, qD⟩, va_recv hKc hPc (ci := 4) (q0 := 0) rfl rfl, fun U hU hW => ⟨rfl, by rw [hU], by rw [hU]; exact hPc, va_K.moved hW.alike hKc, hDc.weaken (fun _ _ _ _ => trivial)⟩⟩ rfl rfl hl.1 rfl (lv_room (Nat.le_of_ble_eq_true rfl)) dX4_becomes_12 ⟨Nat.le_of_ble_eq_true rfl, Nat.le_of_ble_eq_true rfl⟩) hS (fun q _ h => hFc q h) hFc (fun r_7 u9 t9 H1 locs ht hvm hw hB hz1 hk1 hS => ?_)
  refine W.widen (k := 0) (n := 0) (Nat.le_of_ble_eq_true rfl) (Nat.le_of_ble_eq_true rfl) ?_
  obtain ⟨vl_8, h_9, h_10, hP1, hK1, hD1⟩ := hB
  rw [ht] at hP1
  have hw := hw.symm
  subst hw
  obtain ⟨hP, hD⟩ := va_join (wr := [(m3, .inl (km3, 3720, .inl bc_3))]) (w1 := [(m0, .inr (4, [.ref m1, .ref m2, .int (nI bk_2), .ref m3, .ref m4, .ref m5, .ref m6, .int sd, .ref m7, .ref m8, .int cl, .int pc, .int op])), (m1, .inl (km1, 93, .inl f_6)), (m7, .inl (km7, 1525, .inl vl_8))]) hP hD [0, 1, 3] [2] rfl rfl (by decide) (by decide) hk1 hFc hP1 hD1
  clear hPc hDc hKc hFc hz1 hk1 ht hvm hP1 hK1 hD1 t9
  generalize H1 = H at hP hS ⊢
  have hP := hP.sub (ws' := [(m0, .inr (4, [.ref m1, .ref m2, .int (nI bk_2), .ref m3, .ref m4, .ref m5, .ref m6, .int sd, .ref m7, .ref m8, .int cl, .int pc, .int op])), (m1, .inl (km1, 93, .inl f_6)), (m3, .inl (km3, 3720, .inl bc_3)), (m7, .inl (km7, 1525, .inl vl_8))]) [1, 2, 0, 3] rfl
  have hD := hD.sub (ws' := [(m0, .inr (4, [.ref m1, .ref m2, .int (nI bk_2), .ref m3, .ref m4, .ref m5, .ref m6, .int sd, .ref m7, .ref m8, .int cl, .int pc, .int op])), (m1, .inl (km1, 93, .inl f_6)), (m3, .inl (km3, 3720, .inl bc_3)), (m7, .inl (km7, 1525, .inl vl_8))]) [1, 2, 0, 3] (by decide) rfl
  refine va_calli (va_runS (As := [.int r_7]) (rest := []) ⟨hx, hb, hml, hown, hts⟩ (c_X4_shown l dC dI   r_7  ) (va_cwS 1 hts gX4_becomes_X4_shown rfl rfl rfl (by decide +kernel) ⟨Nat.le_of_ble_eq_true rfl, Nat.le_of_ble_eq_true rfl⟩) ⟨fun a U g mk q => q, fun U hU hW => ⟨rfl, trivial⟩⟩ rfl rfl hl.1 rfl (lv_room (Nat.le_of_ble_eq_true rfl)) dX4_becomes_15 ⟨Nat.le_of_ble_eq_true rfl, Nat.le_of_ble_eq_true rfl⟩) hS (fun q _ h => h.elim) (fun q h => h.elim) (fun r_12 u9 t9 H1 locs ht hvm hw hB hz1 hk1 hS => ?_)
  refine W.widen (k := 0) (n := 0) (Nat.le_of_ble_eq_true rfl) (Nat.le_of_ble_eq_true rfl) ?_
  have hP := hP.kept (H1 := H1) (fun k q hk => hk1 q.1 (hP k q hk).lt (fun h => h))
  clear hz1 hk1 hB ht hvm t9
  generalize H1 = H at hP hS ⊢
  have hP : va_P (dC, dI) vwCl [(m0, .inr (4, [.ref m1, .ref m2, .int (nI bk_2), .ref m3, .ref m4, .ref m5, .ref m6, .int sd, .ref m7, .ref m8, .int cl, .int pc, .int op])), (m1, .inl (km1, 93, .inl f_6)), (m3, .inl (km3, 3720, .inl bc_3)), (m7, .inl (km7, 1525, .inl vl_8))] H := hP
  clear hw
  subst hQe
  have hP9 := hP.sub (ws' := [(m0, .inr (4, [.ref m1, .ref m2, .int (nI bk_2), .ref m3, .ref m4, .ref m5, .ref m6, .int sd, .ref m7, .ref m8, .int cl, .int pc, .int op])), (m1, .inl (km1, 93, .inl f_6)), (m3, .inl (km3, 3720, .inl bc_3)), (m7, .inl (km7, 1525, .inl vl_8))]) [0, 1, 2, 3] rfl
  have hD9 := hD.sub (ws' := [(m0, .inr (4, [.ref m1, .ref m2, .int (nI bk_2), .ref m3, .ref m4, .ref m5, .ref m6, .int sd, .ref m7, .ref m8, .int cl, .int pc, .int op])), (m1, .inl (km1, 93, .inl f_6)), (m3, .inl (km3, 3720, .inl bc_3)), (m7, .inl (km7, 1525, .inl vl_8))]) [0, 1, 2, 3] (by decide) rfl
  have hK9 := hK.sub (tys' := [(km1, .int), (km3, .int), (km7, .int)]) [0, 1, 2] rfl
  subst hAe
  exact W.iret (v := r_12) hx hb hr (fun t ht hW => ⟨⟨_, _, rfl, rfl, bk_2, bc_3, f_6, vl_8, (by first | assumption | omega), (by first | assumption | omega), (by first | assumption | omega), by rw [ht]; exact hP9, va_K.moved hW.alike hK9, hD9⟩, hS.F ht⟩) hS.2.2 dX4_becomes_18
set_option maxHeartbeats 4000000 in
set_option maxRecDepth 100000 in
theorem c_X4_drawn (l : Launch) (dC : Nat → ClassId) (dI : Nat → Nat → Nat) (m0 m1 m2 m3 m4 m5 m6 m7 m8 : Nat) (sz : Nat) (bk : Nat) (sd : Int32) (cl : Int32) (pc : Int32) (op : Int32) (nn : Int32) (i0 : bk ≤ 40) (g0 : ¬ nn = 0) : Met l yX4_drawn wsX4_drawn ({ frames := 0, cells := 0, slots := 0, locals := 0 }) (va_Pc [.ref m0, .int nn] (fun U => U.heap.size = sz ∧ va_P (dC, dI) vwCl [(m0, .inr (4, [.ref m1, .ref m2, .int (nI bk), .ref m3, .ref m4, .ref m5, .ref m6, .int sd, .ref m7, .ref m8, .int cl, .int pc, .int op]))] U.heap ∧ va_K (dC, dI) vwCl [] U ∧ va_D (fun _ => True) [(m0, .inr (4, [.ref m1, .ref m2, .int (nI bk), .ref m3, .ref m4, .ref m5, .ref m6, .int sd, .ref m7, .ref m8, .int cl, .int pc, .int op]))])) (va_Qi (fun (r u : Int32) => u = r) (fun r t => ∃ (sd' : Int32), (∀ d : Nat, 0 < d → d < 2 ^ 31 → nn = nI d → ¬ r = nI d) ∧ va_P (dC, dI) vwCl [(m0, .inr (4, [.ref m1, .ref m2, .int (nI bk), .ref m3, .ref m4, .ref m5, .ref m6, .int sd', .ref m7, .ref m8, .int cl, .int pc, .int op]))] t.heap ∧ va_K (dC, dI) vwCl [] t ∧ va_D (va_A [(m0, .inr (4, [.ref m1, .ref m2, .int (nI bk), .ref m3, .ref m4, .ref m5, .ref m6, .int sd, .ref m7, .ref m8, .int cl, .int pc, .int op]))] sz) [(m0, .inr (4, [.ref m1, .ref m2, .int (nI bk), .ref m3, .ref m4, .ref m5, .ref m6, .int sd', .ref m7, .ref m8, .int cl, .int pc, .int op]))]) (va_A [(m0, .inr (4, [.ref m1, .ref m2, .int (nI bk), .ref m3, .ref m4, .ref m5, .ref m6, .int sd, .ref m7, .ref m8, .int cl, .int pc, .int op]))] sz)) 0 0 (va_A [(m0, .inr (4, [.ref m1, .ref m2, .int (nI bk), .ref m3, .ref m4, .ref m5, .ref m6, .int sd, .ref m7, .ref m8, .int cl, .int pc, .int op]))] sz) := by
  refine Met.ofW (cc := cX4_drawn) (maxL := 2) (ret := (some .int)) (by decide) rfl ?_
  intro p e s m args below meth c s₁ B hml hv
  obtain ⟨rfl, hsz, hP, hK, hD0⟩ := hv
  have hx := B.exec
  have hb := B.bytes
  have hr := B.returns
  have hts := atoms_spec (ws := wsX4_drawn) B.pre
  have hown : s.vm.findClass RX4 = some m.cls := findClass_of_methodNamed B.named
  have hlocks := B.notSynchronized
  have inX4 : ∀ w ∈ wsX40, w ∈ wsX4_drawn := fun _ h => List.mem_cons_of_mem _ (List.mem_append_right _ h)
  subst hsz
  have hD := hD0.self (sz := s.heap.size)
  generalize hAe : va_A [(m0, .inr (4, [.ref m1, .ref m2, .int (nI bk), .ref m3, .ref m4, .ref m5, .ref m6, .int sd, .ref m7, .ref m8, .int cl, .int pc, .int op]))] s.heap.size = A at hD ⊢
  have hA : ∀ q : Nat, s.heap.size ≤ q → A q := fun q h => by rw [← hAe]; exact Or.inr h
  have hS : va_S A s.heap s.heap [] := va_S.rf
  have hl := lv_entry ([.ref m0, .int nn]) (n := 2) (Nat.le_of_ble_eq_true rfl)
  rw [lg_entry_eq]
  generalize (lg_sl ([.ref m0, .int nn]) ++ List.replicate (2 - (lg_sl ([.ref m0, .int nn])).length) Slot.unset).toArray = ls at hl ⊢
  generalize hQe : MQ below _ _ s 0 0 _ = Q
  generalize ([.ref m0, .int nn] : List Value).toArray = args at hts hQe ⊢
  have hl : lv_has ls 2 [(0, .ref m0), (1, .int nn)] := hl
  refine lv_aload_n hx hb dX4_drawn_0 rfl (lv_at hl 0 rfl) ?_
  refine lv_aload_n hx hb dX4_drawn_1 rfl (lv_at hl 0 rfl) ?_
  refine va_get (D := (dC, dI)) (ci := 4) (v := .int sd) (C := RX4) (T := TX4) (N := 13) hx hb hts inX4 hown hK hP 0 rfl rfl 7 (by decide) (hts (.fieldLink RX4 140 "StoreSlopesModel" "seed" "I") (List.mem_of_getElem? (i := 1) rfl)) (fun _ h9 => h9) rfl dX4_drawn_2 ?_
  refine lv_i2l hx hb dX4_drawn_5 rfl ?_
  refine lv_topl (fun z_1 _ => ?_)
  refine lv_ldc2 (own := RX4) (v := (1103515245)) hx hb hown (hts (.constantLong RX4 143 (1103515245)) (List.mem_of_getElem? (i := 2) rfl)) dX4_drawn_6 ?_
  refine lv_lmul hx hb dX4_drawn_9 ?_
  refine lv_topl (fun z_2 _ => ?_)
  refine lv_ldc2 (own := RX4) (v := (12345)) hx hb hown (hts (.constantLong RX4 145 (12345)) (List.mem_of_getElem? (i := 3) rfl)) dX4_drawn_10 ?_
  refine lv_ladd hx hb dX4_drawn_13 ?_
  refine lv_topl (fun z_3 _ => ?_)
  refine lv_ldc2 (own := RX4) (v := (2147483648)) hx hb hown (hts (.constantLong RX4 147 (2147483648)) (List.mem_of_getElem? (i := 4) rfl)) dX4_drawn_14 ?_
  refine lv_lrem hx hb dX4_drawn_17 (by decide) ?_
  refine lv_topl (fun z_4 _ => ?_)
  refine lv_l2i hx hb dX4_drawn_18 rfl ?_
  refine tp_any (fun y_5 => ?_)
  refine va_put (D := (dC, dI)) (ci := 4) (v := .int y_5) (ty := .int) (C := RX4) (T := TX4) (N := 13) hx hb hts inX4 tyX4 tyX4_ok nmX4 hown hK hP hD hS 0 rfl rfl 7 (by decide) (hts (.fieldLink RX4 140 "StoreSlopesModel" "seed" "I") (List.mem_of_getElem? (i := 1) rfl)) (fun _ h9 => h9) rfl (by decide +kernel) rfl rfl (Nat.le_of_ble_eq_true rfl) dX4_drawn_19 (fun H locs hP hD hS => ?_)
  have hP : va_P (dC, dI) vwCl [(m0, .inr (4, [.ref m1, .ref m2, .int (nI bk), .ref m3, .ref m4, .ref m5, .ref m6, .int y_5, .ref m7, .ref m8, .int cl, .int pc, .int op]))] H := hP
  have hD : va_D A [(m0, .inr (4, [.ref m1, .ref m2, .int (nI bk), .ref m3, .ref m4, .ref m5, .ref m6, .int y_5, .ref m7, .ref m8, .int cl, .int pc, .int op]))] := hD
  refine lv_aload_n hx hb dX4_drawn_22 rfl (lv_at hl 0 rfl) ?_
  refine va_get (D := (dC, dI)) (ci := 4) (v := .int y_5) (C := RX4) (T := TX4) (N := 13) hx hb hts inX4 hown hK hP 0 rfl rfl 7 (by decide) (hts (.fieldLink RX4 140 "StoreSlopesModel" "seed" "I") (List.mem_of_getElem? (i := 1) rfl)) (fun _ h9 => h9) rfl dX4_drawn_23 ?_
  refine lv_ldc (own := RX4) (v := (65536)) hx hb hown (hts (.constant RX4 149 (65536)) (List.mem_of_getElem? (i := 5) rfl)) dX4_drawn_26 ?_
  refine lv_idiv hx hb dX4_drawn_28 (by decide) ?_
  refine tp_any (fun y_6 => ?_)
  refine lv_iload_n hx hb dX4_drawn_29 rfl (lv_at hl 1 rfl) ?_
  refine lv_irem hx hb dX4_drawn_30 g0 ?_
  subst hQe
  have hP9 := hP.sub (ws' := [(m0, .inr (4, [.ref m1, .ref m2, .int (nI bk), .ref m3, .ref m4, .ref m5, .ref m6, .int y_5, .ref m7, .ref m8, .int cl, .int pc, .int op]))]) [0] rfl
  have hD9 := hD.sub (ws' := [(m0, .inr (4, [.ref m1, .ref m2, .int (nI bk), .ref m3, .ref m4, .ref m5, .ref m6, .int y_5, .ref m7, .ref m8, .int cl, .int pc, .int op]))]) [0] (by decide) rfl
  have hK9 := hK.sub (tys' := []) [] rfl
  subst hAe
  exact W.iret (v := (y_6 - y_6 / nn * nn)) hx hb hr (fun t ht hW => ⟨⟨_, _, rfl, rfl, y_5, (fun d h0 hd e9 => by rw [e9]; exact rem_ne _ h0 hd), by rw [ht]; exact hP9, va_K.moved hW.alike hK9, hD9⟩, hS.F ht⟩) hS.2.2 dX4_drawn_31
