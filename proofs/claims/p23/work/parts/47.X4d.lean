set_option maxHeartbeats 4000000 in
set_option maxRecDepth 100000 in
theorem c_X4_undo (l : Launch) (dC : Nat → ClassId) (dI : Nat → Nat → Nat) (m0 m1 m2 m3 m4 m5 m6 m7 m8 : Nat) (km1 km2 km3 km4 km5 km6 km7 km8 : ClassId) (sz : Nat) (bk : Nat) (sd : Int32) (cl : Int32) (pc : Int32) (op : Int32) (nw : Nat → Int32) (ws : Nat → Int32) (bc : Nat → Int32) (im : Nat → Int32) (isd : Nat → Int32) (kp : Nat → Int32) (vl : Nat → Int32) (pl : Nat → Int32) (a : Int32) (i0 : bk ≤ 40) (i1 : okN nw) (i2 : okB 40 bc) (i3 : okB 2 im) (i4 : bdA 60 24 pl) : Met l yX4_undo wsX4_undo ({ frames := 1, cells := 0, slots := 0, locals := 25 }) (va_Pc [.ref m0, .int a] (fun U => U.heap.size = sz ∧ va_P (dC, dI) vwCl [(m0, .inr (4, [.ref m1, .ref m2, .int (nI bk), .ref m3, .ref m4, .ref m5, .ref m6, .int sd, .ref m7, .ref m8, .int cl, .int pc, .int op])), (m1, .inl (km1, 93, .inl nw)), (m2, .inl (km2, 93, .inl ws)), (m3, .inl (km3, 3720, .inl bc)), (m4, .inl (km4, 186, .inl im)), (m5, .inl (km5, 2, .inl isd)), (m6, .inl (km6, 2, .inl kp)), (m7, .inl (km7, 1525, .inl vl)), (m8, .inl (km8, 24, .inl pl))] U.heap ∧ va_K (dC, dI) vwCl [(km1, .int), (km2, .int), (km3, .int), (km4, .int), (km5, .int), (km6, .boolean), (km7, .int), (km8, .int)] U ∧ va_D (fun _ => True) [(m0, .inr (4, [.ref m1, .ref m2, .int (nI bk), .ref m3, .ref m4, .ref m5, .ref m6, .int sd, .ref m7, .ref m8, .int cl, .int pc, .int op])), (m1, .inl (km1, 93, .inl nw)), (m2, .inl (km2, 93, .inl ws)), (m3, .inl (km3, 3720, .inl bc)), (m4, .inl (km4, 186, .inl im)), (m5, .inl (km5, 2, .inl isd)), (m6, .inl (km6, 2, .inl kp)), (m7, .inl (km7, 1525, .inl vl)), (m8, .inl (km8, 24, .inl pl))])) (va_Qi (fun (r u : Int32) => u = r) (fun r t => ∃ (bk' : Nat) (sd' : Int32) (cl' : Int32) (pc' : Int32) (op' : Int32) (nw' : Nat → Int32) (ws' : Nat → Int32) (bc' : Nat → Int32) (im' : Nat → Int32) (isd' : Nat → Int32) (vl' : Nat → Int32) (pl' : Nat → Int32), bk' ≤ 40 ∧ okN nw' ∧ okB 40 bc' ∧ okB 2 im' ∧ bdA 60 24 pl' ∧ va_P (dC, dI) vwCl [(m0, .inr (4, [.ref m1, .ref m2, .int (nI bk'), .ref m3, .ref m4, .ref m5, .ref m6, .int sd', .ref m7, .ref m8, .int cl', .int pc', .int op'])), (m1, .inl (km1, 93, .inl nw')), (m2, .inl (km2, 93, .inl ws')), (m3, .inl (km3, 3720, .inl bc')), (m4, .inl (km4, 186, .inl im')), (m5, .inl (km5, 2, .inl isd')), (m6, .inl (km6, 2, .inl kp)), (m7, .inl (km7, 1525, .inl vl')), (m8, .inl (km8, 24, .inl pl'))] t.heap ∧ va_K (dC, dI) vwCl [(km1, .int), (km2, .int), (km3, .int), (km4, .int), (km5, .int), (km6, .boolean), (km7, .int), (km8, .int)] t ∧ va_D (va_A [(m0, .inr (4, [.ref m1, .ref m2, .int (nI bk), .ref m3, .ref m4, .ref m5, .ref m6, .int sd, .ref m7, .ref m8, .int cl, .int pc, .int op])), (m1, .inl (km1, 93, .inl nw)), (m2, .inl (km2, 93, .inl ws)), (m3, .inl (km3, 3720, .inl bc)), (m4, .inl (km4, 186, .inl im)), (m5, .inl (km5, 2, .inl isd)), (m6, .inl (km6, 2, .inl kp)), (m7, .inl (km7, 1525, .inl vl)), (m8, .inl (km8, 24, .inl pl))] sz) [(m0, .inr (4, [.ref m1, .ref m2, .int (nI bk'), .ref m3, .ref m4, .ref m5, .ref m6, .int sd', .ref m7, .ref m8, .int cl', .int pc', .int op'])), (m1, .inl (km1, 93, .inl nw')), (m2, .inl (km2, 93, .inl ws')), (m3, .inl (km3, 3720, .inl bc')), (m4, .inl (km4, 186, .inl im')), (m5, .inl (km5, 2, .inl isd')), (m6, .inl (km6, 2, .inl kp)), (m7, .inl (km7, 1525, .inl vl')), (m8, .inl (km8, 24, .inl pl'))]) (va_A [(m0, .inr (4, [.ref m1, .ref m2, .int (nI bk), .ref m3, .ref m4, .ref m5, .ref m6, .int sd, .ref m7, .ref m8, .int cl, .int pc, .int op])), (m1, .inl (km1, 93, .inl nw)), (m2, .inl (km2, 93, .inl ws)), (m3, .inl (km3, 3720, .inl bc)), (m4, .inl (km4, 186, .inl im)), (m5, .inl (km5, 2, .inl isd)), (m6, .inl (km6, 2, .inl kp)), (m7, .inl (km7, 1525, .inl vl)), (m8, .inl (km8, 24, .inl pl))] sz)) 0 0 (va_A [(m0, .inr (4, [.ref m1, .ref m2, .int (nI bk), .ref m3, .ref m4, .ref m5, .ref m6, .int sd, .ref m7, .ref m8, .int cl, .int pc, .int op])), (m1, .inl (km1, 93, .inl nw)), (m2, .inl (km2, 93, .inl ws)), (m3, .inl (km3, 3720, .inl bc)), (m4, .inl (km4, 186, .inl im)), (m5, .inl (km5, 2, .inl isd)), (m6, .inl (km6, 2, .inl kp)), (m7, .inl (km7, 1525, .inl vl)), (m8, .inl (km8, 24, .inl pl))] sz) := by
  refine Met.ofW (cc := cX4_undo) (maxL := 2) (ret := (some .int)) (by decide) rfl ?_
  intro p e s m args below meth c s₁ B hml hv
  obtain ⟨rfl, hsz, hP, hK, hD0⟩ := hv
  have hx := B.exec
  have hb := B.bytes
  have hr := B.returns
  have hts := atoms_spec (ws := wsX4_undo) B.pre
  have hown : s.vm.findClass RX4 = some m.cls := findClass_of_methodNamed B.named
  have hlocks := B.notSynchronized
  have inX4 : ∀ w ∈ wsX40, w ∈ wsX4_undo := fun _ h => List.mem_cons_of_mem _ (List.mem_append_right _ h)
  subst hsz
  have hD := hD0.self (sz := s.heap.size)
  generalize hAe : va_A [(m0, .inr (4, [.ref m1, .ref m2, .int (nI bk), .ref m3, .ref m4, .ref m5, .ref m6, .int sd, .ref m7, .ref m8, .int cl, .int pc, .int op])), (m1, .inl (km1, 93, .inl nw)), (m2, .inl (km2, 93, .inl ws)), (m3, .inl (km3, 3720, .inl bc)), (m4, .inl (km4, 186, .inl im)), (m5, .inl (km5, 2, .inl isd)), (m6, .inl (km6, 2, .inl kp)), (m7, .inl (km7, 1525, .inl vl)), (m8, .inl (km8, 24, .inl pl))] s.heap.size = A at hD ⊢
  have hA : ∀ q : Nat, s.heap.size ≤ q → A q := fun q h => by rw [← hAe]; exact Or.inr h
  have hS : va_S A s.heap s.heap [] := va_S.rf
  have hl := lv_entry ([.ref m0, .int a]) (n := 2) (Nat.le_of_ble_eq_true rfl)
  rw [lg_entry_eq]
  generalize (lg_sl ([.ref m0, .int a]) ++ List.replicate (2 - (lg_sl ([.ref m0, .int a])).length) Slot.unset).toArray = ls at hl ⊢
  generalize hQe : MQ below _ _ s 0 0 _ = Q
  generalize ([.ref m0, .int a] : List Value).toArray = args at hts hQe ⊢
  have hl : lv_has ls 2 [(0, .ref m0), (1, .int a)] := hl
  refine lv_iload_n hx hb dX4_undo_0 rfl (lv_at hl 1 rfl) ?_
  refine lv_iconst (v := nI 1) hx hb dX4_undo_1 (by decide) ?_
  refine lv_bipush (v := nI 40) hx hb dX4_undo_2 (by decide) ?_
  refine va_calli (va_runS (As := [.int a, .int (nI 1), .int (nI 40)]) (rest := []) ⟨hx, hb, hml, hown, hts⟩ (c_X4_in l dC dI   a (nI 1) (nI 40)  ) (va_cwS 3 hts gX4_undo_X4_in rfl rfl rfl (by decide +kernel) ⟨Nat.le_of_ble_eq_true rfl, Nat.le_of_ble_eq_true rfl⟩) ⟨fun a U g mk q => q, fun U hU hW => ⟨rfl, trivial⟩⟩ rfl rfl hl.1 rfl (lv_room (Nat.le_of_ble_eq_true rfl)) dX4_undo_4 ⟨Nat.le_of_ble_eq_true rfl, Nat.le_of_ble_eq_true rfl⟩) hS (fun q _ h => h.elim) (fun q h => h.elim) (fun r_1 u9 t9 H1 locs ht hvm hw hB hz1 hk1 hS => ?_)
  refine W.widen (k := 0) (n := 0) (Nat.le_of_ble_eq_true rfl) (Nat.le_of_ble_eq_true rfl) ?_
  have hP := hP.kept (H1 := H1) (fun k q hk => hk1 q.1 (hP k q hk).lt (fun h => h))
  clear hz1 hk1 hB ht hvm t9
  generalize H1 = H at hP hS ⊢
  have hP : va_P (dC, dI) vwCl [(m0, .inr (4, [.ref m1, .ref m2, .int (nI bk), .ref m3, .ref m4, .ref m5, .ref m6, .int sd, .ref m7, .ref m8, .int cl, .int pc, .int op])), (m1, .inl (km1, 93, .inl nw)), (m2, .inl (km2, 93, .inl ws)), (m3, .inl (km3, 3720, .inl bc)), (m4, .inl (km4, 186, .inl im)), (m5, .inl (km5, 2, .inl isd)), (m6, .inl (km6, 2, .inl kp)), (m7, .inl (km7, 1525, .inl vl)), (m8, .inl (km8, 24, .inl pl))] H := hP
  have wr_1 := hw
  clear hw
  refine lv_if_ne (tgt := 13) hx hb dX4_undo_7 (by decide) (fun c_7 => ?_) (fun c_7 => ?_)
  · obtain ⟨j_2, gj_2, hj_2, rfl⟩ := rg_1b (by decide) (b_1 wr_1 c_7)
    refine lv_iload_n hx hb dX4_undo_13 rfl (lv_at hl 1 rfl) ?_
    refine lv_aload_n hx hb dX4_undo_14 rfl (lv_at hl 0 rfl) ?_
    refine va_get (D := (dC, dI)) (ci := 4) (v := .int (nI bk)) (C := RX4) (T := TX4) (N := 13) hx hb hts inX4 hown hK hP 0 rfl rfl 2 (by decide) (hts (.fieldLink RX4 99 "StoreSlopesModel" "backs" "I") (List.mem_of_getElem? (i := 2) rfl)) (fun _ h9 => h9) rfl dX4_undo_15 ?_
    refine lv_icmp_le (tgt := 24) hx hb dX4_undo_18 (by decide) (fun c_18 => ?_) (fun c_18 => ?_)
    · have c_18 := (nI_leI (by omega : j_2 < 2 ^ 31) (by omega : bk < 2 ^ 31)).mp c_18
      refine lv_aload_n hx hb dX4_undo_24 rfl (lv_at hl 0 rfl) ?_
      refine lv_dup hx hb dX4_undo_25 rfl ?_
      refine va_get (D := (dC, dI)) (ci := 4) (v := .int (nI bk)) (C := RX4) (T := TX4) (N := 13) hx hb hts inX4 hown hK hP 0 rfl rfl 2 (by decide) (hts (.fieldLink RX4 99 "StoreSlopesModel" "backs" "I") (List.mem_of_getElem? (i := 2) rfl)) (fun _ h9 => h9) rfl dX4_undo_26 ?_
      refine lv_iload_n hx hb dX4_undo_29 rfl (lv_at hl 1 rfl) ?_
      refine lv_isub hx hb dX4_undo_30 ?_
      refine tp_as (pk_sub (a := bk) (b := j_2) (by omega)) ?_
      refine va_put (D := (dC, dI)) (ci := 4) (v := .int (nI (bk - j_2))) (ty := .int) (C := RX4) (T := TX4) (N := 13) hx hb hts inX4 tyX4 tyX4_ok nmX4 hown hK hP hD hS 0 rfl rfl 2 (by decide) (hts (.fieldLink RX4 99 "StoreSlopesModel" "backs" "I") (List.mem_of_getElem? (i := 2) rfl)) (fun _ h9 => h9) rfl (by decide +kernel) rfl rfl (Nat.le_of_ble_eq_true rfl) dX4_undo_31 (fun H locs hP hD hS => ?_)
      have hP : va_P (dC, dI) vwCl [(m0, .inr (4, [.ref m1, .ref m2, .int (nI (bk - j_2)), .ref m3, .ref m4, .ref m5, .ref m6, .int sd, .ref m7, .ref m8, .int cl, .int pc, .int op])), (m1, .inl (km1, 93, .inl nw)), (m2, .inl (km2, 93, .inl ws)), (m3, .inl (km3, 3720, .inl bc)), (m4, .inl (km4, 186, .inl im)), (m5, .inl (km5, 2, .inl isd)), (m6, .inl (km6, 2, .inl kp)), (m7, .inl (km7, 1525, .inl vl)), (m8, .inl (km8, 24, .inl pl))] H := hP
      have hD : va_D A [(m0, .inr (4, [.ref m1, .ref m2, .int (nI (bk - j_2)), .ref m3, .ref m4, .ref m5, .ref m6, .int sd, .ref m7, .ref m8, .int cl, .int pc, .int op])), (m1, .inl (km1, 93, .inl nw)), (m2, .inl (km2, 93, .inl ws)), (m3, .inl (km3, 3720, .inl bc)), (m4, .inl (km4, 186, .inl im)), (m5, .inl (km5, 2, .inl isd)), (m6, .inl (km6, 2, .inl kp)), (m7, .inl (km7, 1525, .inl vl)), (m8, .inl (km8, 24, .inl pl))] := hD
      refine lv_aload_n hx hb dX4_undo_34 rfl (lv_at hl 0 rfl) ?_
      refine va_get (D := (dC, dI)) (ci := 4) (v := .ref m3) (C := RX4) (T := TX4) (N := 13) hx hb hts inX4 hown hK hP 0 rfl rfl 3 (by decide) (hts (.fieldLink RX4 16 "StoreSlopesModel" "back" "[I") (List.mem_of_getElem? (i := 4) rfl)) (fun _ h9 => h9) rfl dX4_undo_35 ?_
      refine lv_bipush (v := nI 93) hx hb dX4_undo_38 (by decide) ?_
      refine lv_aload_n hx hb dX4_undo_40 rfl (lv_at hl 0 rfl) ?_
      refine va_get (D := (dC, dI)) (ci := 4) (v := .int (nI (bk - j_2))) (C := RX4) (T := TX4) (N := 13) hx hb hts inX4 hown hK hP 0 rfl rfl 2 (by decide) (hts (.fieldLink RX4 99 "StoreSlopesModel" "backs" "I") (List.mem_of_getElem? (i := 2) rfl)) (fun _ h9 => h9) rfl dX4_undo_41 ?_
      refine lv_imul hx hb dX4_undo_44 ?_
      refine tp_as (pk_mul 93 (bk - j_2)) ?_
      refine lv_aload_n hx hb dX4_undo_45 rfl (lv_at hl 0 rfl) ?_
      refine va_get (D := (dC, dI)) (ci := 4) (v := .ref m1) (C := RX4) (T := TX4) (N := 13) hx hb hts inX4 hown hK hP 0 rfl rfl 0 (by decide) (hts (.fieldLink RX4 7 "StoreSlopesModel" "now" "[I") (List.mem_of_getElem? (i := 5) rfl)) (fun _ h9 => h9) rfl dX4_undo_46 ?_
      refine lv_iconst (v := nI 0) hx hb dX4_undo_49 (by decide) ?_
      refine lv_bipush (v := nI 93) hx hb dX4_undo_50 (by decide) ?_
      have hPc := hP.sub (ws' := [(m3, .inl (km3, 3720, .inl bc)), (m1, .inl (km1, 93, .inl nw))]) [3, 1] rfl
      have hKc := hK.sub (tys' := [(km3, .int), (km1, .int)]) [2, 0] rfl
      have hDc := hD.sub (ws' := [(m3, .inl (km3, 3720, .inl bc)), (m1, .inl (km1, 93, .inl nw))]) [3, 1] (by decide) rfl
      have hFc := va_free (wc := [(m3, .inl (km3, 3720, .inl bc)), (m1, .inl (km1, 93, .inl nw))]) hD hS hA [3, 1] rfl
      refine va_callv (va_runS (As := [.ref m3, .int (nI (93 * (bk - j_2))), .ref m1, .int (nI 0), .int (nI 93)]) (rest := []) ⟨hx, hb, hml, hown, hts⟩ (c_X4_bring l dC dI m3 m1 km3 km1 H.size 3720 bc 93 nw (93 * (bk - j_2)) 0 93  (by first | assumption | omega) (by first | assumption | omega) (by first | assumption | omega) (by first | assumption | omega)) (va_cwS 5 hts gX4_undo_X4_bring rfl rfl rfl (by decide +kernel) ⟨Nat.le_of_ble_eq_true rfl, Nat.le_of_ble_eq_true rfl⟩) ⟨fun a U g mk q => by obtain ⟨q0, q1, qP, qK, qD⟩ := q; exact ⟨q0, q1, qP, va_K.moved (u := U) (U := U.calling g mk a) (Vm.Alike.refl U.vm) qK, qD⟩, fun U hU hW => ⟨rfl, by rw [hU], by rw [hU]; exact hPc, va_K.moved hW.alike hKc, hDc.weaken (fun _ _ _ _ => trivial)⟩⟩ rfl rfl hl.1 rfl (lv_room (Nat.le_of_ble_eq_true rfl)) dX4_undo_52 ⟨Nat.le_of_ble_eq_true rfl, Nat.le_of_ble_eq_true rfl⟩) hS (fun q _ h => hFc q h) hFc (fun u9 t9 H1 locs ht hvm hw hB hz1 hk1 hS => ?_)
      refine W.widen (k := 0) (n := 0) (Nat.le_of_ble_eq_true rfl) (Nat.le_of_ble_eq_true rfl) ?_
      obtain ⟨⟩ := u9
      obtain ⟨gg_4, h_5, hP1, hK1, hD1⟩ := hB
      rw [ht] at hP1
      obtain ⟨hP, hD⟩ := va_join (wr := [(m0, .inr (4, [.ref m1, .ref m2, .int (nI (bk - j_2)), .ref m3, .ref m4, .ref m5, .ref m6, .int sd, .ref m7, .ref m8, .int cl, .int pc, .int op])), (m2, .inl (km2, 93, .inl ws)), (m4, .inl (km4, 186, .inl im)), (m5, .inl (km5, 2, .inl isd)), (m6, .inl (km6, 2, .inl kp)), (m7, .inl (km7, 1525, .inl vl)), (m8, .inl (km8, 24, .inl pl))]) (w1 := [(m3, .inl (km3, 3720, .inl bc)), (m1, .inl (km1, 93, .inl gg_4))]) hP hD [3, 1] [0, 2, 4, 5, 6, 7, 8] rfl rfl (by decide) (by decide) hk1 hFc hP1 hD1
      clear hPc hDc hKc hFc hz1 hk1 ht hvm hP1 hK1 hD1 hw t9
      generalize H1 = H at hP hS ⊢
      have hP := hP.sub (ws' := [(m0, .inr (4, [.ref m1, .ref m2, .int (nI (bk - j_2)), .ref m3, .ref m4, .ref m5, .ref m6, .int sd, .ref m7, .ref m8, .int cl, .int pc, .int op])), (m1, .inl (km1, 93, .inl gg_4)), (m2, .inl (km2, 93, .inl ws)), (m3, .inl (km3, 3720, .inl bc)), (m4, .inl (km4, 186, .inl im)), (m5, .inl (km5, 2, .inl isd)), (m6, .inl (km6, 2, .inl kp)), (m7, .inl (km7, 1525, .inl vl)), (m8, .inl (km8, 24, .inl pl))]) [0, 8, 1, 7, 2, 3, 4, 5, 6] rfl
      have hD := hD.sub (ws' := [(m0, .inr (4, [.ref m1, .ref m2, .int (nI (bk - j_2)), .ref m3, .ref m4, .ref m5, .ref m6, .int sd, .ref m7, .ref m8, .int cl, .int pc, .int op])), (m1, .inl (km1, 93, .inl gg_4)), (m2, .inl (km2, 93, .inl ws)), (m3, .inl (km3, 3720, .inl bc)), (m4, .inl (km4, 186, .inl im)), (m5, .inl (km5, 2, .inl isd)), (m6, .inl (km6, 2, .inl kp)), (m7, .inl (km7, 1525, .inl vl)), (m8, .inl (km8, 24, .inl pl))]) [0, 8, 1, 7, 2, 3, 4, 5, 6] (by decide) rfl
      have hokg : okN gg_4 := okN_cpy (i2 (bk - j_2) (by omega)) h_5
      refine lv_aload_n hx hb dX4_undo_55 rfl (lv_at hl 0 rfl) ?_
      refine va_get (D := (dC, dI)) (ci := 4) (v := .int (nI (bk - j_2))) (C := RX4) (T := TX4) (N := 13) hx hb hts inX4 hown hK hP 0 rfl rfl 2 (by decide) (hts (.fieldLink RX4 99 "StoreSlopesModel" "backs" "I") (List.mem_of_getElem? (i := 2) rfl)) (fun _ h9 => h9) rfl dX4_undo_56 ?_
      subst hQe
      have hP9 := hP.sub (ws' := [(m0, .inr (4, [.ref m1, .ref m2, .int (nI (bk - j_2)), .ref m3, .ref m4, .ref m5, .ref m6, .int sd, .ref m7, .ref m8, .int cl, .int pc, .int op])), (m1, .inl (km1, 93, .inl gg_4)), (m2, .inl (km2, 93, .inl ws)), (m3, .inl (km3, 3720, .inl bc)), (m4, .inl (km4, 186, .inl im)), (m5, .inl (km5, 2, .inl isd)), (m6, .inl (km6, 2, .inl kp)), (m7, .inl (km7, 1525, .inl vl)), (m8, .inl (km8, 24, .inl pl))]) [0, 1, 2, 3, 4, 5, 6, 7, 8] rfl
      have hD9 := hD.sub (ws' := [(m0, .inr (4, [.ref m1, .ref m2, .int (nI (bk - j_2)), .ref m3, .ref m4, .ref m5, .ref m6, .int sd, .ref m7, .ref m8, .int cl, .int pc, .int op])), (m1, .inl (km1, 93, .inl gg_4)), (m2, .inl (km2, 93, .inl ws)), (m3, .inl (km3, 3720, .inl bc)), (m4, .inl (km4, 186, .inl im)), (m5, .inl (km5, 2, .inl isd)), (m6, .inl (km6, 2, .inl kp)), (m7, .inl (km7, 1525, .inl vl)), (m8, .inl (km8, 24, .inl pl))]) [0, 1, 2, 3, 4, 5, 6, 7, 8] (by decide) rfl
      have hK9 := hK.sub (tys' := [(km1, .int), (km2, .int), (km3, .int), (km4, .int), (km5, .int), (km6, .boolean), (km7, .int), (km8, .int)]) [0, 1, 2, 3, 4, 5, 6, 7] rfl
      subst hAe
      exact W.iret (v := (nI (bk - j_2))) hx hb hr (fun t ht hW => ⟨⟨_, _, rfl, rfl, (bk - j_2), sd, cl, pc, op, gg_4, ws, bc, im, isd, vl, pl, (by first | assumption | omega), (by first | assumption | omega), (by first | assumption | omega), (by first | assumption | omega), (by first | assumption | omega), by rw [ht]; exact hP9, va_K.moved hW.alike hK9, hD9⟩, hS.F ht⟩) hS.2.2 dX4_undo_59
    · have c_18 := (not_congr (nI_leI (by omega : j_2 < 2 ^ 31) (by omega : bk < 2 ^ 31))).mp c_18
      refine lv_ldc (own := RX4) (v := (-1000000003)) hx hb hown (hts (.constant RX4 139 (-1000000003)) (List.mem_of_getElem? (i := 3) rfl)) dX4_undo_21 ?_
      subst hQe
      have hP9 := hP.sub (ws' := [(m0, .inr (4, [.ref m1, .ref m2, .int (nI bk), .ref m3, .ref m4, .ref m5, .ref m6, .int sd, .ref m7, .ref m8, .int cl, .int pc, .int op])), (m1, .inl (km1, 93, .inl nw)), (m2, .inl (km2, 93, .inl ws)), (m3, .inl (km3, 3720, .inl bc)), (m4, .inl (km4, 186, .inl im)), (m5, .inl (km5, 2, .inl isd)), (m6, .inl (km6, 2, .inl kp)), (m7, .inl (km7, 1525, .inl vl)), (m8, .inl (km8, 24, .inl pl))]) [0, 1, 2, 3, 4, 5, 6, 7, 8] rfl
      have hD9 := hD.sub (ws' := [(m0, .inr (4, [.ref m1, .ref m2, .int (nI bk), .ref m3, .ref m4, .ref m5, .ref m6, .int sd, .ref m7, .ref m8, .int cl, .int pc, .int op])), (m1, .inl (km1, 93, .inl nw)), (m2, .inl (km2, 93, .inl ws)), (m3, .inl (km3, 3720, .inl bc)), (m4, .inl (km4, 186, .inl im)), (m5, .inl (km5, 2, .inl isd)), (m6, .inl (km6, 2, .inl kp)), (m7, .inl (km7, 1525, .inl vl)), (m8, .inl (km8, 24, .inl pl))]) [0, 1, 2, 3, 4, 5, 6, 7, 8] (by decide) rfl
      have hK9 := hK.sub (tys' := [(km1, .int), (km2, .int), (km3, .int), (km4, .int), (km5, .int), (km6, .boolean), (km7, .int), (km8, .int)]) [0, 1, 2, 3, 4, 5, 6, 7] rfl
      subst hAe
      exact W.iret (v := ((-1000000003))) hx hb hr (fun t ht hW => ⟨⟨_, _, rfl, rfl, bk, sd, cl, pc, op, nw, ws, bc, im, isd, vl, pl, (by first | assumption | omega), (by first | assumption | omega), (by first | assumption | omega), (by first | assumption | omega), (by first | assumption | omega), by rw [ht]; exact hP9, va_K.moved hW.alike hK9, hD9⟩, hS.F ht⟩) hS.2.2 dX4_undo_23
  · have nc_7 := b_0 wr_1 c_7
    refine lv_ldc (own := RX4) (v := (-1000000002)) hx hb hown (hts (.constant RX4 110 (-1000000002)) (List.mem_of_getElem? (i := 1) rfl)) dX4_undo_10 ?_
    subst hQe
    have hP9 := hP.sub (ws' := [(m0, .inr (4, [.ref m1, .ref m2, .int (nI bk), .ref m3, .ref m4, .ref m5, .ref m6, .int sd, .ref m7, .ref m8, .int cl, .int pc, .int op])), (m1, .inl (km1, 93, .inl nw)), (m2, .inl (km2, 93, .inl ws)), (m3, .inl (km3, 3720, .inl bc)), (m4, .inl (km4, 186, .inl im)), (m5, .inl (km5, 2, .inl isd)), (m6, .inl (km6, 2, .inl kp)), (m7, .inl (km7, 1525, .inl vl)), (m8, .inl (km8, 24, .inl pl))]) [0, 1, 2, 3, 4, 5, 6, 7, 8] rfl
    have hD9 := hD.sub (ws' := [(m0, .inr (4, [.ref m1, .ref m2, .int (nI bk), .ref m3, .ref m4, .ref m5, .ref m6, .int sd, .ref m7, .ref m8, .int cl, .int pc, .int op])), (m1, .inl (km1, 93, .inl nw)), (m2, .inl (km2, 93, .inl ws)), (m3, .inl (km3, 3720, .inl bc)), (m4, .inl (km4, 186, .inl im)), (m5, .inl (km5, 2, .inl isd)), (m6, .inl (km6, 2, .inl kp)), (m7, .inl (km7, 1525, .inl vl)), (m8, .inl (km8, 24, .inl pl))]) [0, 1, 2, 3, 4, 5, 6, 7, 8] (by decide) rfl
    have hK9 := hK.sub (tys' := [(km1, .int), (km2, .int), (km3, .int), (km4, .int), (km5, .int), (km6, .boolean), (km7, .int), (km8, .int)]) [0, 1, 2, 3, 4, 5, 6, 7] rfl
    subst hAe
    exact W.iret (v := ((-1000000002))) hx hb hr (fun t ht hW => ⟨⟨_, _, rfl, rfl, bk, sd, cl, pc, op, nw, ws, bc, im, isd, vl, pl, (by first | assumption | omega), (by first | assumption | omega), (by first | assumption | omega), (by first | assumption | omega), (by first | assumption | omega), by rw [ht]; exact hP9, va_K.moved hW.alike hK9, hD9⟩, hS.F ht⟩) hS.2.2 dX4_undo_12
set_option maxHeartbeats 4000000 in
set_option maxRecDepth 100000 in
theorem c_X4_gain (l : Launch) (dC : Nat → ClassId) (dI : Nat → Nat → Nat) (m0 m1 m2 m3 m4 m5 m6 m7 m8 : Nat) (km1 km2 km3 km4 km5 km6 km7 km8 : ClassId) (sz : Nat) (bk : Nat) (sd : Int32) (cl : Int32) (pc : Int32) (op : Int32) (nw : Nat → Int32) (ws : Nat → Int32) (bc : Nat → Int32) (im : Nat → Int32) (isd : Nat → Int32) (kp : Nat → Int32) (vl : Nat → Int32) (pl : Nat → Int32) (a : Int32) (i0 : bk ≤ 40) (i1 : okN nw) (i2 : okB 40 bc) (i3 : okB 2 im) (i4 : bdA 60 24 pl) : Met l yX4_gain wsX4_gain ({ frames := 7, cells := 0, slots := 0, locals := 162 }) (va_Pc [.ref m0, .int a] (fun U => U.heap.size = sz ∧ va_P (dC, dI) vwCl [(m0, .inr (4, [.ref m1, .ref m2, .int (nI bk), .ref m3, .ref m4, .ref m5, .ref m6, .int sd, .ref m7, .ref m8, .int cl, .int pc, .int op])), (m1, .inl (km1, 93, .inl nw)), (m2, .inl (km2, 93, .inl ws)), (m3, .inl (km3, 3720, .inl bc)), (m4, .inl (km4, 186, .inl im)), (m5, .inl (km5, 2, .inl isd)), (m6, .inl (km6, 2, .inl kp)), (m7, .inl (km7, 1525, .inl vl)), (m8, .inl (km8, 24, .inl pl))] U.heap ∧ va_K (dC, dI) vwCl [(km1, .int), (km2, .int), (km3, .int), (km4, .int), (km5, .int), (km6, .boolean), (km7, .int), (km8, .int)] U ∧ va_D (fun _ => True) [(m0, .inr (4, [.ref m1, .ref m2, .int (nI bk), .ref m3, .ref m4, .ref m5, .ref m6, .int sd, .ref m7, .ref m8, .int cl, .int pc, .int op])), (m1, .inl (km1, 93, .inl nw)), (m2, .inl (km2, 93, .inl ws)), (m3, .inl (km3, 3720, .inl bc)), (m4, .inl (km4, 186, .inl im)), (m5, .inl (km5, 2, .inl isd)), (m6, .inl (km6, 2, .inl kp)), (m7, .inl (km7, 1525, .inl vl)), (m8, .inl (km8, 24, .inl pl))])) (va_Qi (fun (r u : Int32) => u = r) (fun r t => ∃ (bk' : Nat) (sd' : Int32) (cl' : Int32) (pc' : Int32) (op' : Int32) (nw' : Nat → Int32) (ws' : Nat → Int32) (bc' : Nat → Int32) (im' : Nat → Int32) (isd' : Nat → Int32) (vl' : Nat → Int32) (pl' : Nat → Int32), bk' ≤ 40 ∧ okN nw' ∧ okB 40 bc' ∧ okB 2 im' ∧ bdA 60 24 pl' ∧ va_P (dC, dI) vwCl [(m0, .inr (4, [.ref m1, .ref m2, .int (nI bk'), .ref m3, .ref m4, .ref m5, .ref m6, .int sd', .ref m7, .ref m8, .int cl', .int pc', .int op'])), (m1, .inl (km1, 93, .inl nw')), (m2, .inl (km2, 93, .inl ws')), (m3, .inl (km3, 3720, .inl bc')), (m4, .inl (km4, 186, .inl im')), (m5, .inl (km5, 2, .inl isd')), (m6, .inl (km6, 2, .inl kp)), (m7, .inl (km7, 1525, .inl vl')), (m8, .inl (km8, 24, .inl pl'))] t.heap ∧ va_K (dC, dI) vwCl [(km1, .int), (km2, .int), (km3, .int), (km4, .int), (km5, .int), (km6, .boolean), (km7, .int), (km8, .int)] t ∧ va_D (va_A [(m0, .inr (4, [.ref m1, .ref m2, .int (nI bk), .ref m3, .ref m4, .ref m5, .ref m6, .int sd, .ref m7, .ref m8, .int cl, .int pc, .int op])), (m1, .inl (km1, 93, .inl nw)), (m2, .inl (km2, 93, .inl ws)), (m3, .inl (km3, 3720, .inl bc)), (m4, .inl (km4, 186, .inl im)), (m5, .inl (km5, 2, .inl isd)), (m6, .inl (km6, 2, .inl kp)), (m7, .inl (km7, 1525, .inl vl)), (m8, .inl (km8, 24, .inl pl))] sz) [(m0, .inr (4, [.ref m1, .ref m2, .int (nI bk'), .ref m3, .ref m4, .ref m5, .ref m6, .int sd', .ref m7, .ref m8, .int cl', .int pc', .int op'])), (m1, .inl (km1, 93, .inl nw')), (m2, .inl (km2, 93, .inl ws')), (m3, .inl (km3, 3720, .inl bc')), (m4, .inl (km4, 186, .inl im')), (m5, .inl (km5, 2, .inl isd')), (m6, .inl (km6, 2, .inl kp)), (m7, .inl (km7, 1525, .inl vl')), (m8, .inl (km8, 24, .inl pl'))]) (va_A [(m0, .inr (4, [.ref m1, .ref m2, .int (nI bk), .ref m3, .ref m4, .ref m5, .ref m6, .int sd, .ref m7, .ref m8, .int cl, .int pc, .int op])), (m1, .inl (km1, 93, .inl nw)), (m2, .inl (km2, 93, .inl ws)), (m3, .inl (km3, 3720, .inl bc)), (m4, .inl (km4, 186, .inl im)), (m5, .inl (km5, 2, .inl isd)), (m6, .inl (km6, 2, .inl kp)), (m7, .inl (km7, 1525, .inl vl)), (m8, .inl (km8, 24, .inl pl))] sz)) 0 0 (va_A [(m0, .inr (4, [.ref m1, .ref m2, .int (nI bk), .ref m3, .ref m4, .ref m5, .ref m6, .int sd, .ref m7, .ref m8, .int cl, .int pc, .int op])), (m1, .inl (km1, 93, .inl nw)), (m2, .inl (km2, 93, .inl ws)), (m3, .inl (km3, 3720, .inl bc)), (m4, .inl (km4, 186, .inl im)), (m5, .inl (km5, 2, .inl isd)), (m6, .inl (km6, 2, .inl kp)), (m7, .inl (km7, 1525, .inl vl)), (m8, .inl (km8, 24, .inl pl))] sz) := by
  refine Met.ofW (cc := cX4_gain) (maxL := 4) (ret := (some .int)) (by decide) rfl ?_
  intro p e s m args below meth c s₁ B hml hv
  obtain ⟨rfl, hsz, hP, hK, hD0⟩ := hv
  have hx := B.exec
  have hb := B.bytes
  have hr := B.returns
  have hts := atoms_spec (ws := wsX4_gain) B.pre
  have hown : s.vm.findClass RX4 = some m.cls := findClass_of_methodNamed B.named
  have hlocks := B.notSynchronized
  have inX4 : ∀ w ∈ wsX40, w ∈ wsX4_gain := fun _ h => List.mem_cons_of_mem _ (List.mem_append_right _ h)
  subst hsz
  have hD := hD0.self (sz := s.heap.size)
  generalize hAe : va_A [(m0, .inr (4, [.ref m1, .ref m2, .int (nI bk), .ref m3, .ref m4, .ref m5, .ref m6, .int sd, .ref m7, .ref m8, .int cl, .int pc, .int op])), (m1, .inl (km1, 93, .inl nw)), (m2, .inl (km2, 93, .inl ws)), (m3, .inl (km3, 3720, .inl bc)), (m4, .inl (km4, 186, .inl im)), (m5, .inl (km5, 2, .inl isd)), (m6, .inl (km6, 2, .inl kp)), (m7, .inl (km7, 1525, .inl vl)), (m8, .inl (km8, 24, .inl pl))] s.heap.size = A at hD ⊢
  have hA : ∀ q : Nat, s.heap.size ≤ q → A q := fun q h => by rw [← hAe]; exact Or.inr h
  have hS : va_S A s.heap s.heap [] := va_S.rf
  have hl := lv_entry ([.ref m0, .int a]) (n := 4) (Nat.le_of_ble_eq_true rfl)
  rw [lg_entry_eq]
  generalize (lg_sl ([.ref m0, .int a]) ++ List.replicate (4 - (lg_sl ([.ref m0, .int a])).length) Slot.unset).toArray = ls at hl ⊢
  generalize hQe : MQ below _ _ s 0 0 _ = Q
  generalize ([.ref m0, .int a] : List Value).toArray = args at hts hQe ⊢
  have hl : lv_has ls 4 [(0, .ref m0), (1, .int a)] := hl
  refine lv_iload_n hx hb dX4_gain_0 rfl (lv_at hl 1 rfl) ?_
  refine lv_iconst (v := nI 0) hx hb dX4_gain_1 (by decide) ?_
  refine lv_iconst (v := nI 3) hx hb dX4_gain_2 (by decide) ?_
  refine va_calli (va_runS (As := [.int a, .int (nI 0), .int (nI 3)]) (rest := []) ⟨hx, hb, hml, hown, hts⟩ (c_X4_in l dC dI   a (nI 0) (nI 3)  ) (va_cwS 3 hts gX4_gain_X4_in rfl rfl rfl (by decide +kernel) ⟨Nat.le_of_ble_eq_true rfl, Nat.le_of_ble_eq_true rfl⟩) ⟨fun a U g mk q => q, fun U hU hW => ⟨rfl, trivial⟩⟩ rfl rfl hl.1 rfl (lv_room (Nat.le_of_ble_eq_true rfl)) dX4_gain_3 ⟨Nat.le_of_ble_eq_true rfl, Nat.le_of_ble_eq_true rfl⟩) hS (fun q _ h => h.elim) (fun q h => h.elim) (fun r_1 u9 t9 H1 locs ht hvm hw hB hz1 hk1 hS => ?_)
  refine W.widen (k := 0) (n := 0) (Nat.le_of_ble_eq_true rfl) (Nat.le_of_ble_eq_true rfl) ?_
  have hP := hP.kept (H1 := H1) (fun k q hk => hk1 q.1 (hP k q hk).lt (fun h => h))
  clear hz1 hk1 hB ht hvm t9
  generalize H1 = H at hP hS ⊢
  have hP : va_P (dC, dI) vwCl [(m0, .inr (4, [.ref m1, .ref m2, .int (nI bk), .ref m3, .ref m4, .ref m5, .ref m6, .int sd, .ref m7, .ref m8, .int cl, .int pc, .int op])), (m1, .inl (km1, 93, .inl nw)), (m2, .inl (km2, 93, .inl ws)), (m3, .inl (km3, 3720, .inl bc)), (m4, .inl (km4, 186, .inl im)), (m5, .inl (km5, 2, .inl isd)), (m6, .inl (km6, 2, .inl kp)), (m7, .inl (km7, 1525, .inl vl)), (m8, .inl (km8, 24, .inl pl))] H := hP
  have wr_1 := hw
  clear hw
  refine lv_if_ne (tgt := 12) hx hb dX4_gain_6 (by decide) (fun c_6 => ?_) (fun c_6 => ?_)
  · obtain ⟨j_2, hj_2, rfl⟩ := rg_0 (by decide) (b_1 wr_1 c_6)
    refine lv_aload_n hx hb dX4_gain_12 rfl (lv_at hl 0 rfl) ?_
    have hPc := hP.sub (ws' := [(m0, .inr (4, [.ref m1, .ref m2, .int (nI bk), .ref m3, .ref m4, .ref m5, .ref m6, .int sd, .ref m7, .ref m8, .int cl, .int pc, .int op])), (m1, .inl (km1, 93, .inl nw)), (m7, .inl (km7, 1525, .inl vl))]) [0, 1, 7] rfl
    have hKc := hK.sub (tys' := [(km1, .int), (km7, .int)]) [0, 6] rfl
    have hDc := hD.sub (ws' := [(m0, .inr (4, [.ref m1, .ref m2, .int (nI bk), .ref m3, .ref m4, .ref m5, .ref m6, .int sd, .ref m7, .ref m8, .int cl, .int pc, .int op])), (m1, .inl (km1, 93, .inl nw)), (m7, .inl (km7, 1525, .inl vl))]) [0, 1, 7] (by decide) rfl
    have hFc := va_free (wc := [(m0, .inr (4, [.ref m1, .ref m2, .int (nI bk), .ref m3, .ref m4, .ref m5, .ref m6, .int sd, .ref m7, .ref m8, .int cl, .int pc, .int op])), (m1, .inl (km1, 93, .inl nw)), (m7, .inl (km7, 1525, .inl vl))]) hD hS hA [0, 1, 7] rfl
    refine va_calli (va_runV (As := []) (rest := []) ⟨hx, hb, hml, hown, hts⟩ (c_X4_bestOf l dC dI m0 m1 m7 m2 m3 m4 m5 m6 m8 km1 km7 H.size bk sd cl pc op nw vl  (by first | assumption | omega) (by first | assumption | omega) ) (cwV 0 hts gX4_gain_X4_bestOf rfl rfl rfl (by decide +kernel) ⟨Nat.le_of_ble_eq_true rfl, Nat.le_of_ble_eq_true rfl⟩) ⟨fun a U g mk q => by obtain ⟨q0, q1, qP, qK, qD⟩ := q; exact ⟨q0, q1, qP, va_K.moved (u := U) (U := U.calling g mk a) (Vm.Alike.refl U.vm) qK, qD⟩, va_recv hKc hPc (ci := 4) (q0 := 0) rfl rfl, fun U hU hW => ⟨rfl, by rw [hU], by rw [hU]; exact hPc, va_K.moved hW.alike hKc, hDc.weaken (fun _ _ _ _ => trivial)⟩⟩ rfl rfl hl.1 rfl (lv_room (Nat.le_of_ble_eq_true rfl)) dX4_gain_13 ⟨Nat.le_of_ble_eq_true rfl, Nat.le_of_ble_eq_true rfl⟩) hS (fun q _ h => hFc q h) hFc (fun r_3 u9 t9 H1 locs ht hvm hw hB hz1 hk1 hS => ?_)
    refine W.widen (k := 0) (n := 0) (Nat.le_of_ble_eq_true rfl) (Nat.le_of_ble_eq_true rfl) ?_
    obtain ⟨vl_4, h_5, h_6, hP1, hK1, hD1⟩ := hB
    rw [ht] at hP1
    have hw := hw.symm
    subst hw
    obtain ⟨hP, hD⟩ := va_join (wr := [(m2, .inl (km2, 93, .inl ws)), (m3, .inl (km3, 3720, .inl bc)), (m4, .inl (km4, 186, .inl im)), (m5, .inl (km5, 2, .inl isd)), (m6, .inl (km6, 2, .inl kp)), (m8, .inl (km8, 24, .inl pl))]) (w1 := [(m0, .inr (4, [.ref m1, .ref m2, .int (nI bk), .ref m3, .ref m4, .ref m5, .ref m6, .int sd, .ref m7, .ref m8, .int cl, .int pc, .int op])), (m1, .inl (km1, 93, .inl nw)), (m7, .inl (km7, 1525, .inl vl_4))]) hP hD [0, 1, 7] [2, 3, 4, 5, 6, 8] rfl rfl (by decide) (by decide) hk1 hFc hP1 hD1
    clear hPc hDc hKc hFc hz1 hk1 ht hvm hP1 hK1 hD1 t9
    generalize H1 = H at hP hS ⊢
    have hP := hP.sub (ws' := [(m0, .inr (4, [.ref m1, .ref m2, .int (nI bk), .ref m3, .ref m4, .ref m5, .ref m6, .int sd, .ref m7, .ref m8, .int cl, .int pc, .int op])), (m1, .inl (km1, 93, .inl nw)), (m2, .inl (km2, 93, .inl ws)), (m3, .inl (km3, 3720, .inl bc)), (m4, .inl (km4, 186, .inl im)), (m5, .inl (km5, 2, .inl isd)), (m6, .inl (km6, 2, .inl kp)), (m7, .inl (km7, 1525, .inl vl_4)), (m8, .inl (km8, 24, .inl pl))]) [6, 7, 0, 1, 2, 3, 4, 8, 5] rfl
    have hD := hD.sub (ws' := [(m0, .inr (4, [.ref m1, .ref m2, .int (nI bk), .ref m3, .ref m4, .ref m5, .ref m6, .int sd, .ref m7, .ref m8, .int cl, .int pc, .int op])), (m1, .inl (km1, 93, .inl nw)), (m2, .inl (km2, 93, .inl ws)), (m3, .inl (km3, 3720, .inl bc)), (m4, .inl (km4, 186, .inl im)), (m5, .inl (km5, 2, .inl isd)), (m6, .inl (km6, 2, .inl kp)), (m7, .inl (km7, 1525, .inl vl_4)), (m8, .inl (km8, 24, .inl pl))]) [6, 7, 0, 1, 2, 3, 4, 8, 5] (by decide) rfl
    refine lv_istore_n (lv' := [(2, .int r_3), (0, .ref m0), (1, .int (nI j_2))]) hx hb dX4_gain_16 rfl hl (by decide) rfl (fun ls hl => ?_)
    refine lv_aload_n hx hb dX4_gain_17 rfl (lv_at hl 1 rfl) ?_
    refine va_get (D := (dC, dI)) (ci := 4) (v := .ref m1) (C := RX4) (T := TX4) (N := 13) hx hb hts inX4 hown hK hP 0 rfl rfl 0 (by decide) (hts (.fieldLink RX4 7 "StoreSlopesModel" "now" "[I") (List.mem_of_getElem? (i := 2) rfl)) (fun _ h9 => h9) rfl dX4_gain_18 ?_
    refine lv_iconst (v := nI 0) hx hb dX4_gain_21 (by decide) ?_
    refine lv_aload_n hx hb dX4_gain_22 rfl (lv_at hl 1 rfl) ?_
    refine va_get (D := (dC, dI)) (ci := 4) (v := .ref m2) (C := RX4) (T := TX4) (N := 13) hx hb hts inX4 hown hK hP 0 rfl rfl 1 (by decide) (hts (.fieldLink RX4 13 "StoreSlopesModel" "was" "[I") (List.mem_of_getElem? (i := 3) rfl)) (fun _ h9 => h9) rfl dX4_gain_23 ?_
    refine lv_iconst (v := nI 0) hx hb dX4_gain_26 (by decide) ?_
    refine lv_bipush (v := nI 93) hx hb dX4_gain_27 (by decide) ?_
    have hPc := hP.sub (ws' := [(m1, .inl (km1, 93, .inl nw)), (m2, .inl (km2, 93, .inl ws))]) [1, 2] rfl
    have hKc := hK.sub (tys' := [(km1, .int), (km2, .int)]) [0, 1] rfl
    have hDc := hD.sub (ws' := [(m1, .inl (km1, 93, .inl nw)), (m2, .inl (km2, 93, .inl ws))]) [1, 2] (by decide) rfl
    have hFc := va_free (wc := [(m1, .inl (km1, 93, .inl nw)), (m2, .inl (km2, 93, .inl ws))]) hD hS hA [1, 2] rfl
    refine va_callv (va_runS (As := [.ref m1, .int (nI 0), .ref m2, .int (nI 0), .int (nI 93)]) (rest := []) ⟨hx, hb, hml, hown, hts⟩ (c_X4_bring l dC dI m1 m2 km1 km2 H.size 93 nw 93 ws 0 0 93  (by first | assumption | omega) (by first | assumption | omega) (by first | assumption | omega) (by first | assumption | omega)) (va_cwS 5 hts gX4_gain_X4_bring rfl rfl rfl (by decide +kernel) ⟨Nat.le_of_ble_eq_true rfl, Nat.le_of_ble_eq_true rfl⟩) ⟨fun a U g mk q => by obtain ⟨q0, q1, qP, qK, qD⟩ := q; exact ⟨q0, q1, qP, va_K.moved (u := U) (U := U.calling g mk a) (Vm.Alike.refl U.vm) qK, qD⟩, fun U hU hW => ⟨rfl, by rw [hU], by rw [hU]; exact hPc, va_K.moved hW.alike hKc, hDc.weaken (fun _ _ _ _ => trivial)⟩⟩ rfl rfl hl.1 rfl (lv_room (Nat.le_of_ble_eq_true rfl)) dX4_gain_29 ⟨Nat.le_of_ble_eq_true rfl, Nat.le_of_ble_eq_true rfl⟩) hS (fun q _ h => hFc q h) hFc (fun u9 t9 H1 locs ht hvm hw hB hz1 hk1 hS => ?_)
    refine W.widen (k := 0) (n := 0) (Nat.le_of_ble_eq_true rfl) (Nat.le_of_ble_eq_true rfl) ?_
    obtain ⟨⟩ := u9
    obtain ⟨gg_9, h_10, hP1, hK1, hD1⟩ := hB
    rw [ht] at hP1
    obtain ⟨hP, hD⟩ := va_join (wr := [(m0, .inr (4, [.ref m1, .ref m2, .int (nI bk), .ref m3, .ref m4, .ref m5, .ref m6, .int sd, .ref m7, .ref m8, .int cl, .int pc, .int op])), (m3, .inl (km3, 3720, .inl bc)), (m4, .inl (km4, 186, .inl im)), (m5, .inl (km5, 2, .inl isd)), (m6, .inl (km6, 2, .inl kp)), (m7, .inl (km7, 1525, .inl vl_4)), (m8, .inl (km8, 24, .inl pl))]) (w1 := [(m1, .inl (km1, 93, .inl nw)), (m2, .inl (km2, 93, .inl gg_9))]) hP hD [1, 2] [0, 3, 4, 5, 6, 7, 8] rfl rfl (by decide) (by decide) hk1 hFc hP1 hD1
    clear hPc hDc hKc hFc hz1 hk1 ht hvm hP1 hK1 hD1 hw t9
    generalize H1 = H at hP hS ⊢
    have hP := hP.sub (ws' := [(m0, .inr (4, [.ref m1, .ref m2, .int (nI bk), .ref m3, .ref m4, .ref m5, .ref m6, .int sd, .ref m7, .ref m8, .int cl, .int pc, .int op])), (m1, .inl (km1, 93, .inl nw)), (m2, .inl (km2, 93, .inl gg_9)), (m3, .inl (km3, 3720, .inl bc)), (m4, .inl (km4, 186, .inl im)), (m5, .inl (km5, 2, .inl isd)), (m6, .inl (km6, 2, .inl kp)), (m7, .inl (km7, 1525, .inl vl_4)), (m8, .inl (km8, 24, .inl pl))]) [0, 7, 8, 1, 2, 3, 4, 5, 6] rfl
    have hD := hD.sub (ws' := [(m0, .inr (4, [.ref m1, .ref m2, .int (nI bk), .ref m3, .ref m4, .ref m5, .ref m6, .int sd, .ref m7, .ref m8, .int cl, .int pc, .int op])), (m1, .inl (km1, 93, .inl nw)), (m2, .inl (km2, 93, .inl gg_9)), (m3, .inl (km3, 3720, .inl bc)), (m4, .inl (km4, 186, .inl im)), (m5, .inl (km5, 2, .inl isd)), (m6, .inl (km6, 2, .inl kp)), (m7, .inl (km7, 1525, .inl vl_4)), (m8, .inl (km8, 24, .inl pl))]) [0, 7, 8, 1, 2, 3, 4, 5, 6] (by decide) rfl
    have hokw : okN gg_9 := okN_cpy (b := 0) (by simp only [Nat.zero_add]; exact i1) h_10
    refine lv_iconst (v := nI 0) hx hb dX4_gain_32 (by decide) ?_
    refine lv_istore_n (lv' := [(3, .int (nI 0)), (2, .int r_3), (0, .ref m0), (1, .int (nI j_2))]) hx hb dX4_gain_33 rfl hl (by decide) rfl (fun ls hl => ?_)
    have L34 : ∀ (n : Nat) (i : Nat) (nwv : Nat → Int32) (H : Heap) (locs : List Loc) (ls : Array Slot), i ≤ 24 → okN nwv → 24 - i < n → va_P (dC, dI) vwCl [(m0, .inr (4, [.ref m1, .ref m2, .int (nI bk), .ref m3, .ref m4, .ref m5, .ref m6, .int sd, .ref m7, .ref m8, .int cl, .int pc, .int op])), (m1, .inl (km1, 93, .inl nwv)), (m2, .inl (km2, 93, .inl gg_9)), (m3, .inl (km3, 3720, .inl bc)), (m4, .inl (km4, 186, .inl im)), (m5, .inl (km5, 2, .inl isd)), (m6, .inl (km6, 2, .inl kp)), (m7, .inl (km7, 1525, .inl vl_4)), (m8, .inl (km8, 24, .inl pl))] H → va_D A [(m0, .inr (4, [.ref m1, .ref m2, .int (nI bk), .ref m3, .ref m4, .ref m5, .ref m6, .int sd, .ref m7, .ref m8, .int cl, .int pc, .int op])), (m1, .inl (km1, 93, .inl nwv)), (m2, .inl (km2, 93, .inl gg_9)), (m3, .inl (km3, 3720, .inl bc)), (m4, .inl (km4, 186, .inl im)), (m5, .inl (km5, 2, .inl isd)), (m6, .inl (km6, 2, .inl kp)), (m7, .inl (km7, 1525, .inl vl_4)), (m8, .inl (km8, 24, .inl pl))] → va_S A s.heap H locs → lv_has ls 4 [(0, .ref m0), (1, .int (nI j_2)), (2, .int r_3), (3, .int (nI i))] → W p l e (headSpec wsX4_gain { frames := 7, cells := 0, slots := 0, locals := 162 }).room s m args below meth c H locs 0 0 Q (F0 m 34 ls []) := by
      intro n
      induction n with
      | zero => intro i nwv H locs ls hL34_0 hL34_1 hn; exact absurd hn (Nat.not_lt_zero _)
      | succ n ih34 =>
        intro i nwv H locs ls hL34_0 hL34_1 hn hP hD hS hl
        refine lv_iload_n hx hb dX4_gain_34 rfl (lv_at hl 3 rfl) ?_
        refine lv_bipush (v := nI 24) hx hb dX4_gain_35 (by decide) ?_
        refine lv_icmp_ge (tgt := 81) hx hb dX4_gain_37 (by decide) (fun c_37 => ?_) (fun c_37 => ?_)
        · have c_37 := (nI_leI (by omega : 24 < 2 ^ 31) (by omega : i < 2 ^ 31)).mp c_37
          refine lv_aload_n hx hb dX4_gain_81 rfl (lv_at hl 0 rfl) ?_
          refine va_get (D := (dC, dI)) (ci := 4) (v := .ref m1) (C := RX4) (T := TX4) (N := 13) hx hb hts inX4 hown hK hP 0 rfl rfl 0 (by decide) (hts (.fieldLink RX4 7 "StoreSlopesModel" "now" "[I") (List.mem_of_getElem? (i := 2) rfl)) (fun _ h9 => h9) rfl dX4_gain_82 ?_
          refine lv_iconst (v := nI 2) hx hb dX4_gain_85 (by decide) ?_
          refine lv_dup2_11 hx hb dX4_gain_86 rfl rfl ?_
          obtain ⟨j_11, hj_11, ej_11⟩ := (show okN nwv by assumption).2.2.1
          refine va_iald hx hb hK hP 1 0 rfl rfl (vp_in_nI (show 2 < 93 by omega) (by omega)) dX4_gain_87 ?_
          refine tp_as (cl_as (by omega) ej_11) ?_
          refine lv_iload_n hx hb dX4_gain_88 rfl (lv_at hl 1 rfl) ?_
          refine lv_iconst (v := nI 1) hx hb dX4_gain_89 (by decide) ?_
          have J109 : ∀ (ee109 : Nat) (H : Heap) (locs : List Loc) (ls : Array Slot), j_11 + ee109 ≤ 9 → va_P (dC, dI) vwCl [(m0, .inr (4, [.ref m1, .ref m2, .int (nI bk), .ref m3, .ref m4, .ref m5, .ref m6, .int sd, .ref m7, .ref m8, .int cl, .int pc, .int op])), (m1, .inl (km1, 93, .inl nwv)), (m2, .inl (km2, 93, .inl gg_9)), (m3, .inl (km3, 3720, .inl bc)), (m4, .inl (km4, 186, .inl im)), (m5, .inl (km5, 2, .inl isd)), (m6, .inl (km6, 2, .inl kp)), (m7, .inl (km7, 1525, .inl vl_4)), (m8, .inl (km8, 24, .inl pl))] H → va_D A [(m0, .inr (4, [.ref m1, .ref m2, .int (nI bk), .ref m3, .ref m4, .ref m5, .ref m6, .int sd, .ref m7, .ref m8, .int cl, .int pc, .int op])), (m1, .inl (km1, 93, .inl nwv)), (m2, .inl (km2, 93, .inl gg_9)), (m3, .inl (km3, 3720, .inl bc)), (m4, .inl (km4, 186, .inl im)), (m5, .inl (km5, 2, .inl isd)), (m6, .inl (km6, 2, .inl kp)), (m7, .inl (km7, 1525, .inl vl_4)), (m8, .inl (km8, 24, .inl pl))] → va_S A s.heap H locs → lv_has ls 4 [(0, .ref m0), (1, .int (nI j_2)), (2, .int r_3)] → W p l e (headSpec wsX4_gain { frames := 7, cells := 0, slots := 0, locals := 162 }).room s m args below meth c H locs 0 0 Q (F0 m 109 ls [.int (nI ee109), .int (nI j_11), .int (nI 2), .ref m1]) := by
            intro ee109 H locs ls hJ109_0 hP hD hS hl
            refine lv_iadd hx hb dX4_gain_109 ?_
            refine tp_as (nI_add j_11 ee109) ?_
            refine va_iast hx hb hK hP hD hS 1 0 rfl rfl (vp_in_nI (show 2 < 93 by omega) (by omega)) dX4_gain_110 (fun H locs hP hD hS => ?_)
            have hP : va_P (dC, dI) vwCl [(m0, .inr (4, [.ref m1, .ref m2, .int (nI bk), .ref m3, .ref m4, .ref m5, .ref m6, .int sd, .ref m7, .ref m8, .int cl, .int pc, .int op])), (m1, .inl (km1, 93, .inl (upd nwv (nI 2).toNatClampNeg (nI (j_11 + ee109))))), (m2, .inl (km2, 93, .inl gg_9)), (m3, .inl (km3, 3720, .inl bc)), (m4, .inl (km4, 186, .inl im)), (m5, .inl (km5, 2, .inl isd)), (m6, .inl (km6, 2, .inl kp)), (m7, .inl (km7, 1525, .inl vl_4)), (m8, .inl (km8, 24, .inl pl))] H := hP
            have hD : va_D A [(m0, .inr (4, [.ref m1, .ref m2, .int (nI bk), .ref m3, .ref m4, .ref m5, .ref m6, .int sd, .ref m7, .ref m8, .int cl, .int pc, .int op])), (m1, .inl (km1, 93, .inl (upd nwv (nI 2).toNatClampNeg (nI (j_11 + ee109))))), (m2, .inl (km2, 93, .inl gg_9)), (m3, .inl (km3, 3720, .inl bc)), (m4, .inl (km4, 186, .inl im)), (m5, .inl (km5, 2, .inl isd)), (m6, .inl (km6, 2, .inl kp)), (m7, .inl (km7, 1525, .inl vl_4)), (m8, .inl (km8, 24, .inl pl))] := hD
            generalize ef_12 : upd nwv (nI 2).toNatClampNeg (nI (j_11 + ee109)) = f_12 at hP hD
            have bf_12 : okN f_12 := okN_upd (by assumption) ef_12 (by omega) (by refine ⟨fun q => ?_, fun q => ?_, fun q => ?_, fun q => ?_, fun q => ?_, fun q q2 => ?_⟩ <;> first | (exfalso; omega) | exact ⟨_, by omega, rfl⟩)
            clear ef_12
            refine lv_aload_n hx hb dX4_gain_111 rfl (lv_at hl 0 rfl) ?_
            refine va_get (D := (dC, dI)) (ci := 4) (v := .ref m1) (C := RX4) (T := TX4) (N := 13) hx hb hts inX4 hown hK hP 0 rfl rfl 0 (by decide) (hts (.fieldLink RX4 7 "StoreSlopesModel" "now" "[I") (List.mem_of_getElem? (i := 2) rfl)) (fun _ h9 => h9) rfl dX4_gain_112 ?_
            refine lv_iconst (v := nI 3) hx hb dX4_gain_115 (by decide) ?_
            refine lv_dup2_11 hx hb dX4_gain_116 rfl rfl ?_
            obtain ⟨j_13, hj_13, ej_13⟩ := (show okN f_12 by assumption).2.2.2.1
            refine va_iald hx hb hK hP 1 0 rfl rfl (vp_in_nI (show 3 < 93 by omega) (by omega)) dX4_gain_117 ?_
            refine tp_as (cl_as (by omega) ej_13) ?_
            refine lv_iload_n hx hb dX4_gain_118 rfl (lv_at hl 1 rfl) ?_
            refine lv_iconst (v := nI 2) hx hb dX4_gain_119 (by decide) ?_
            have J139 : ∀ (ee139 : Nat) (H : Heap) (locs : List Loc) (ls : Array Slot), j_13 + ee139 ≤ 9 → va_P (dC, dI) vwCl [(m0, .inr (4, [.ref m1, .ref m2, .int (nI bk), .ref m3, .ref m4, .ref m5, .ref m6, .int sd, .ref m7, .ref m8, .int cl, .int pc, .int op])), (m1, .inl (km1, 93, .inl f_12)), (m2, .inl (km2, 93, .inl gg_9)), (m3, .inl (km3, 3720, .inl bc)), (m4, .inl (km4, 186, .inl im)), (m5, .inl (km5, 2, .inl isd)), (m6, .inl (km6, 2, .inl kp)), (m7, .inl (km7, 1525, .inl vl_4)), (m8, .inl (km8, 24, .inl pl))] H → va_D A [(m0, .inr (4, [.ref m1, .ref m2, .int (nI bk), .ref m3, .ref m4, .ref m5, .ref m6, .int sd, .ref m7, .ref m8, .int cl, .int pc, .int op])), (m1, .inl (km1, 93, .inl f_12)), (m2, .inl (km2, 93, .inl gg_9)), (m3, .inl (km3, 3720, .inl bc)), (m4, .inl (km4, 186, .inl im)), (m5, .inl (km5, 2, .inl isd)), (m6, .inl (km6, 2, .inl kp)), (m7, .inl (km7, 1525, .inl vl_4)), (m8, .inl (km8, 24, .inl pl))] → va_S A s.heap H locs → lv_has ls 4 [(0, .ref m0), (1, .int (nI j_2)), (2, .int r_3)] → W p l e (headSpec wsX4_gain { frames := 7, cells := 0, slots := 0, locals := 162 }).room s m args below meth c H locs 0 0 Q (F0 m 139 ls [.int (nI ee139), .int (nI j_13), .int (nI 3), .ref m1]) := by
              intro ee139 H locs ls hJ139_0 hP hD hS hl
              refine lv_iadd hx hb dX4_gain_139 ?_
              refine tp_as (nI_add j_13 ee139) ?_
              refine va_iast hx hb hK hP hD hS 1 0 rfl rfl (vp_in_nI (show 3 < 93 by omega) (by omega)) dX4_gain_140 (fun H locs hP hD hS => ?_)
              have hP : va_P (dC, dI) vwCl [(m0, .inr (4, [.ref m1, .ref m2, .int (nI bk), .ref m3, .ref m4, .ref m5, .ref m6, .int sd, .ref m7, .ref m8, .int cl, .int pc, .int op])), (m1, .inl (km1, 93, .inl (upd f_12 (nI 3).toNatClampNeg (nI (j_13 + ee139))))), (m2, .inl (km2, 93, .inl gg_9)), (m3, .inl (km3, 3720, .inl bc)), (m4, .inl (km4, 186, .inl im)), (m5, .inl (km5, 2, .inl isd)), (m6, .inl (km6, 2, .inl kp)), (m7, .inl (km7, 1525, .inl vl_4)), (m8, .inl (km8, 24, .inl pl))] H := hP
              have hD : va_D A [(m0, .inr (4, [.ref m1, .ref m2, .int (nI bk), .ref m3, .ref m4, .ref m5, .ref m6, .int sd, .ref m7, .ref m8, .int cl, .int pc, .int op])), (m1, .inl (km1, 93, .inl (upd f_12 (nI 3).toNatClampNeg (nI (j_13 + ee139))))), (m2, .inl (km2, 93, .inl gg_9)), (m3, .inl (km3, 3720, .inl bc)), (m4, .inl (km4, 186, .inl im)), (m5, .inl (km5, 2, .inl isd)), (m6, .inl (km6, 2, .inl kp)), (m7, .inl (km7, 1525, .inl vl_4)), (m8, .inl (km8, 24, .inl pl))] := hD
              generalize ef_14 : upd f_12 (nI 3).toNatClampNeg (nI (j_13 + ee139)) = f_14 at hP hD
              have bf_14 : okN f_14 := okN_upd (by assumption) ef_14 (by omega) (by refine ⟨fun q => ?_, fun q => ?_, fun q => ?_, fun q => ?_, fun q => ?_, fun q q2 => ?_⟩ <;> first | (exfalso; omega) | exact ⟨_, by omega, rfl⟩)
              clear ef_14
              refine lv_aload_n hx hb dX4_gain_141 rfl (lv_at hl 0 rfl) ?_
              refine va_get (D := (dC, dI)) (ci := 4) (v := .ref m1) (C := RX4) (T := TX4) (N := 13) hx hb hts inX4 hown hK hP 0 rfl rfl 0 (by decide) (hts (.fieldLink RX4 7 "StoreSlopesModel" "now" "[I") (List.mem_of_getElem? (i := 2) rfl)) (fun _ h9 => h9) rfl dX4_gain_142 ?_
              refine lv_iconst (v := nI 4) hx hb dX4_gain_145 (by decide) ?_
              refine lv_dup2_11 hx hb dX4_gain_146 rfl rfl ?_
              refine va_iald hx hb hK hP 1 0 rfl rfl (vp_in_nI (show 4 < 93 by omega) (by omega)) dX4_gain_147 ?_
              refine tp_any (fun y_15 => ?_)
              refine lv_iload_n hx hb dX4_gain_148 rfl (lv_at hl 1 rfl) ?_
              refine lv_iconst (v := nI 3) hx hb dX4_gain_149 (by decide) ?_
              have J167 : ∀ (ee : Int32) (H : Heap) (locs : List Loc) (ls : Array Slot), va_P (dC, dI) vwCl [(m0, .inr (4, [.ref m1, .ref m2, .int (nI bk), .ref m3, .ref m4, .ref m5, .ref m6, .int sd, .ref m7, .ref m8, .int cl, .int pc, .int op])), (m1, .inl (km1, 93, .inl f_14)), (m2, .inl (km2, 93, .inl gg_9)), (m3, .inl (km3, 3720, .inl bc)), (m4, .inl (km4, 186, .inl im)), (m5, .inl (km5, 2, .inl isd)), (m6, .inl (km6, 2, .inl kp)), (m7, .inl (km7, 1525, .inl vl_4)), (m8, .inl (km8, 24, .inl pl))] H → va_D A [(m0, .inr (4, [.ref m1, .ref m2, .int (nI bk), .ref m3, .ref m4, .ref m5, .ref m6, .int sd, .ref m7, .ref m8, .int cl, .int pc, .int op])), (m1, .inl (km1, 93, .inl f_14)), (m2, .inl (km2, 93, .inl gg_9)), (m3, .inl (km3, 3720, .inl bc)), (m4, .inl (km4, 186, .inl im)), (m5, .inl (km5, 2, .inl isd)), (m6, .inl (km6, 2, .inl kp)), (m7, .inl (km7, 1525, .inl vl_4)), (m8, .inl (km8, 24, .inl pl))] → va_S A s.heap H locs → lv_has ls 4 [(0, .ref m0), (1, .int (nI j_2)), (2, .int r_3)] → W p l e (headSpec wsX4_gain { frames := 7, cells := 0, slots := 0, locals := 162 }).room s m args below meth c H locs 0 0 Q (F0 m 167 ls [.int ee, .int y_15, .int (nI 4), .ref m1]) := by
                intro ee H locs ls hP hD hS hl
                refine lv_isub hx hb dX4_gain_167 ?_
                refine tp_any (fun y_16 => ?_)
                refine va_iast hx hb hK hP hD hS 1 0 rfl rfl (vp_in_nI (show 4 < 93 by omega) (by omega)) dX4_gain_168 (fun H locs hP hD hS => ?_)
                have hP : va_P (dC, dI) vwCl [(m0, .inr (4, [.ref m1, .ref m2, .int (nI bk), .ref m3, .ref m4, .ref m5, .ref m6, .int sd, .ref m7, .ref m8, .int cl, .int pc, .int op])), (m1, .inl (km1, 93, .inl (upd f_14 (nI 4).toNatClampNeg (y_16)))), (m2, .inl (km2, 93, .inl gg_9)), (m3, .inl (km3, 3720, .inl bc)), (m4, .inl (km4, 186, .inl im)), (m5, .inl (km5, 2, .inl isd)), (m6, .inl (km6, 2, .inl kp)), (m7, .inl (km7, 1525, .inl vl_4)), (m8, .inl (km8, 24, .inl pl))] H := hP
                have hD : va_D A [(m0, .inr (4, [.ref m1, .ref m2, .int (nI bk), .ref m3, .ref m4, .ref m5, .ref m6, .int sd, .ref m7, .ref m8, .int cl, .int pc, .int op])), (m1, .inl (km1, 93, .inl (upd f_14 (nI 4).toNatClampNeg (y_16)))), (m2, .inl (km2, 93, .inl gg_9)), (m3, .inl (km3, 3720, .inl bc)), (m4, .inl (km4, 186, .inl im)), (m5, .inl (km5, 2, .inl isd)), (m6, .inl (km6, 2, .inl kp)), (m7, .inl (km7, 1525, .inl vl_4)), (m8, .inl (km8, 24, .inl pl))] := hD
                generalize ef_17 : upd f_14 (nI 4).toNatClampNeg (y_16) = f_17 at hP hD
                have bf_17 : okN f_17 := okN_upd (by assumption) ef_17 (by omega) (by refine ⟨fun q => ?_, fun q => ?_, fun q => ?_, fun q => ?_, fun q => ?_, fun q q2 => ?_⟩ <;> first | (exfalso; omega) | exact ⟨_, by omega, rfl⟩)
                clear ef_17
                refine lv_aload_n hx hb dX4_gain_169 rfl (lv_at hl 0 rfl) ?_
                have hPc := hP.sub (ws' := [(m0, .inr (4, [.ref m1, .ref m2, .int (nI bk), .ref m3, .ref m4, .ref m5, .ref m6, .int sd, .ref m7, .ref m8, .int cl, .int pc, .int op])), (m1, .inl (km1, 93, .inl f_17)), (m7, .inl (km7, 1525, .inl vl_4))]) [0, 1, 7] rfl
                have hKc := hK.sub (tys' := [(km1, .int), (km7, .int)]) [0, 6] rfl
                have hDc := hD.sub (ws' := [(m0, .inr (4, [.ref m1, .ref m2, .int (nI bk), .ref m3, .ref m4, .ref m5, .ref m6, .int sd, .ref m7, .ref m8, .int cl, .int pc, .int op])), (m1, .inl (km1, 93, .inl f_17)), (m7, .inl (km7, 1525, .inl vl_4))]) [0, 1, 7] (by decide) rfl
                have hFc := va_free (wc := [(m0, .inr (4, [.ref m1, .ref m2, .int (nI bk), .ref m3, .ref m4, .ref m5, .ref m6, .int sd, .ref m7, .ref m8, .int cl, .int pc, .int op])), (m1, .inl (km1, 93, .inl f_17)), (m7, .inl (km7, 1525, .inl vl_4))]) hD hS hA [0, 1, 7] rfl
                refine va_calli (va_runV (As := []) (rest := []) ⟨hx, hb, hml, hown, hts⟩ (c_X4_bestOf l dC dI m0 m1 m7 m2 m3 m4 m5 m6 m8 km1 km7 H.size bk sd cl pc op f_17 vl_4  (by first | assumption | omega) (by first | assumption | omega) ) (cwV 0 hts gX4_gain_X4_bestOf rfl rfl rfl (by decide +kernel) ⟨Nat.le_of_ble_eq_true rfl, Nat.le_of_ble_eq_true rfl⟩) ⟨fun a U g mk q => by obtain ⟨q0, q1, qP, qK, qD⟩ := q; exact ⟨q0, q1, qP, va_K.moved (u := U) (U := U.calling g mk a) (Vm.Alike.refl U.vm) qK, qD⟩, va_recv hKc hPc (ci := 4) (q0 := 0) rfl rfl, fun U hU hW => ⟨rfl, by rw [hU], by rw [hU]; exact hPc, va_K.moved hW.alike hKc, hDc.weaken (fun _ _ _ _ => trivial)⟩⟩ rfl rfl hl.1 rfl (lv_room (Nat.le_of_ble_eq_true rfl)) dX4_gain_170 ⟨Nat.le_of_ble_eq_true rfl, Nat.le_of_ble_eq_true rfl⟩) hS (fun q _ h => hFc q h) hFc (fun r_18 u9 t9 H1 locs ht hvm hw hB hz1 hk1 hS => ?_)
                refine W.widen (k := 0) (n := 0) (Nat.le_of_ble_eq_true rfl) (Nat.le_of_ble_eq_true rfl) ?_
                obtain ⟨vl_19, h_20, h_21, hP1, hK1, hD1⟩ := hB
                rw [ht] at hP1
                have hw := hw.symm
                subst hw
                obtain ⟨hP, hD⟩ := va_join (wr := [(m2, .inl (km2, 93, .inl gg_9)), (m3, .inl (km3, 3720, .inl bc)), (m4, .inl (km4, 186, .inl im)), (m5, .inl (km5, 2, .inl isd)), (m6, .inl (km6, 2, .inl kp)), (m8, .inl (km8, 24, .inl pl))]) (w1 := [(m0, .inr (4, [.ref m1, .ref m2, .int (nI bk), .ref m3, .ref m4, .ref m5, .ref m6, .int sd, .ref m7, .ref m8, .int cl, .int pc, .int op])), (m1, .inl (km1, 93, .inl f_17)), (m7, .inl (km7, 1525, .inl vl_19))]) hP hD [0, 1, 7] [2, 3, 4, 5, 6, 8] rfl rfl (by decide) (by decide) hk1 hFc hP1 hD1
                clear hPc hDc hKc hFc hz1 hk1 ht hvm hP1 hK1 hD1 t9
                generalize H1 = H at hP hS ⊢
                have hP := hP.sub (ws' := [(m0, .inr (4, [.ref m1, .ref m2, .int (nI bk), .ref m3, .ref m4, .ref m5, .ref m6, .int sd, .ref m7, .ref m8, .int cl, .int pc, .int op])), (m1, .inl (km1, 93, .inl f_17)), (m2, .inl (km2, 93, .inl gg_9)), (m3, .inl (km3, 3720, .inl bc)), (m4, .inl (km4, 186, .inl im)), (m5, .inl (km5, 2, .inl isd)), (m6, .inl (km6, 2, .inl kp)), (m7, .inl (km7, 1525, .inl vl_19)), (m8, .inl (km8, 24, .inl pl))]) [6, 7, 0, 1, 2, 3, 4, 8, 5] rfl
                have hD := hD.sub (ws' := [(m0, .inr (4, [.ref m1, .ref m2, .int (nI bk), .ref m3, .ref m4, .ref m5, .ref m6, .int sd, .ref m7, .ref m8, .int cl, .int pc, .int op])), (m1, .inl (km1, 93, .inl f_17)), (m2, .inl (km2, 93, .inl gg_9)), (m3, .inl (km3, 3720, .inl bc)), (m4, .inl (km4, 186, .inl im)), (m5, .inl (km5, 2, .inl isd)), (m6, .inl (km6, 2, .inl kp)), (m7, .inl (km7, 1525, .inl vl_19)), (m8, .inl (km8, 24, .inl pl))]) [6, 7, 0, 1, 2, 3, 4, 8, 5] (by decide) rfl
                refine lv_istore_n (lv' := [(3, .int r_18), (0, .ref m0), (1, .int (nI j_2)), (2, .int r_3)]) hx hb dX4_gain_173 rfl hl (by decide) rfl (fun ls hl => ?_)
                refine lv_aload_n hx hb dX4_gain_174 rfl (lv_at hl 1 rfl) ?_
                refine va_get (D := (dC, dI)) (ci := 4) (v := .ref m2) (C := RX4) (T := TX4) (N := 13) hx hb hts inX4 hown hK hP 0 rfl rfl 1 (by decide) (hts (.fieldLink RX4 13 "StoreSlopesModel" "was" "[I") (List.mem_of_getElem? (i := 3) rfl)) (fun _ h9 => h9) rfl dX4_gain_175 ?_
                refine lv_iconst (v := nI 0) hx hb dX4_gain_178 (by decide) ?_
                refine lv_aload_n hx hb dX4_gain_179 rfl (lv_at hl 1 rfl) ?_
                refine va_get (D := (dC, dI)) (ci := 4) (v := .ref m1) (C := RX4) (T := TX4) (N := 13) hx hb hts inX4 hown hK hP 0 rfl rfl 0 (by decide) (hts (.fieldLink RX4 7 "StoreSlopesModel" "now" "[I") (List.mem_of_getElem? (i := 2) rfl)) (fun _ h9 => h9) rfl dX4_gain_180 ?_
                refine lv_iconst (v := nI 0) hx hb dX4_gain_183 (by decide) ?_
                refine lv_bipush (v := nI 93) hx hb dX4_gain_184 (by decide) ?_
                have hPc := hP.sub (ws' := [(m2, .inl (km2, 93, .inl gg_9)), (m1, .inl (km1, 93, .inl f_17))]) [2, 1] rfl
                have hKc := hK.sub (tys' := [(km2, .int), (km1, .int)]) [1, 0] rfl
                have hDc := hD.sub (ws' := [(m2, .inl (km2, 93, .inl gg_9)), (m1, .inl (km1, 93, .inl f_17))]) [2, 1] (by decide) rfl
                have hFc := va_free (wc := [(m2, .inl (km2, 93, .inl gg_9)), (m1, .inl (km1, 93, .inl f_17))]) hD hS hA [2, 1] rfl
                refine va_callv (va_runS (As := [.ref m2, .int (nI 0), .ref m1, .int (nI 0), .int (nI 93)]) (rest := []) ⟨hx, hb, hml, hown, hts⟩ (c_X4_bring l dC dI m2 m1 km2 km1 H.size 93 gg_9 93 f_17 0 0 93  (by first | assumption | omega) (by first | assumption | omega) (by first | assumption | omega) (by first | assumption | omega)) (va_cwS 5 hts gX4_gain_X4_bring rfl rfl rfl (by decide +kernel) ⟨Nat.le_of_ble_eq_true rfl, Nat.le_of_ble_eq_true rfl⟩) ⟨fun a U g mk q => by obtain ⟨q0, q1, qP, qK, qD⟩ := q; exact ⟨q0, q1, qP, va_K.moved (u := U) (U := U.calling g mk a) (Vm.Alike.refl U.vm) qK, qD⟩, fun U hU hW => ⟨rfl, by rw [hU], by rw [hU]; exact hPc, va_K.moved hW.alike hKc, hDc.weaken (fun _ _ _ _ => trivial)⟩⟩ rfl rfl hl.1 rfl (lv_room (Nat.le_of_ble_eq_true rfl)) dX4_gain_186 ⟨Nat.le_of_ble_eq_true rfl, Nat.le_of_ble_eq_true rfl⟩) hS (fun q _ h => hFc q h) hFc (fun u9 t9 H1 locs ht hvm hw hB hz1 hk1 hS => ?_)
                refine W.widen (k := 0) (n := 0) (Nat.le_of_ble_eq_true rfl) (Nat.le_of_ble_eq_true rfl) ?_
                obtain ⟨⟩ := u9
                obtain ⟨gg_24, h_25, hP1, hK1, hD1⟩ := hB
                rw [ht] at hP1
                obtain ⟨hP, hD⟩ := va_join (wr := [(m0, .inr (4, [.ref m1, .ref m2, .int (nI bk), .ref m3, .ref m4, .ref m5, .ref m6, .int sd, .ref m7, .ref m8, .int cl, .int pc, .int op])), (m3, .inl (km3, 3720, .inl bc)), (m4, .inl (km4, 186, .inl im)), (m5, .inl (km5, 2, .inl isd)), (m6, .inl (km6, 2, .inl kp)), (m7, .inl (km7, 1525, .inl vl_19)), (m8, .inl (km8, 24, .inl pl))]) (w1 := [(m2, .inl (km2, 93, .inl gg_9)), (m1, .inl (km1, 93, .inl gg_24))]) hP hD [2, 1] [0, 3, 4, 5, 6, 7, 8] rfl rfl (by decide) (by decide) hk1 hFc hP1 hD1
                clear hPc hDc hKc hFc hz1 hk1 ht hvm hP1 hK1 hD1 hw t9
                generalize H1 = H at hP hS ⊢
                have hP := hP.sub (ws' := [(m0, .inr (4, [.ref m1, .ref m2, .int (nI bk), .ref m3, .ref m4, .ref m5, .ref m6, .int sd, .ref m7, .ref m8, .int cl, .int pc, .int op])), (m1, .inl (km1, 93, .inl gg_24)), (m2, .inl (km2, 93, .inl gg_9)), (m3, .inl (km3, 3720, .inl bc)), (m4, .inl (km4, 186, .inl im)), (m5, .inl (km5, 2, .inl isd)), (m6, .inl (km6, 2, .inl kp)), (m7, .inl (km7, 1525, .inl vl_19)), (m8, .inl (km8, 24, .inl pl))]) [0, 8, 7, 1, 2, 3, 4, 5, 6] rfl
                have hD := hD.sub (ws' := [(m0, .inr (4, [.ref m1, .ref m2, .int (nI bk), .ref m3, .ref m4, .ref m5, .ref m6, .int sd, .ref m7, .ref m8, .int cl, .int pc, .int op])), (m1, .inl (km1, 93, .inl gg_24)), (m2, .inl (km2, 93, .inl gg_9)), (m3, .inl (km3, 3720, .inl bc)), (m4, .inl (km4, 186, .inl im)), (m5, .inl (km5, 2, .inl isd)), (m6, .inl (km6, 2, .inl kp)), (m7, .inl (km7, 1525, .inl vl_19)), (m8, .inl (km8, 24, .inl pl))]) [0, 8, 7, 1, 2, 3, 4, 5, 6] (by decide) rfl
                have hokg : okN gg_24 := okN_cpy (b := 0) (by simp only [Nat.zero_add]; exact hokw) h_25
                refine lv_iload_n hx hb dX4_gain_189 rfl (lv_at hl 3 rfl) ?_
                refine lv_ldc (own := RX4) (v := (-500000000)) hx hb hown (hts (.constant RX4 67 (-500000000)) (List.mem_of_getElem? (i := 4) rfl)) dX4_gain_190 ?_
                refine lv_icmp_eq (tgt := 201) hx hb dX4_gain_192 (by decide) (fun c_192 => ?_) (fun c_192 => ?_)
                · refine lv_iconst (v := (-1)) hx hb dX4_gain_201 (by decide) ?_
                  refine lv_goto (tgt := 208) hx hb dX4_gain_202 (by decide) ?_
                  subst hQe
                  have hP9 := hP.sub (ws' := [(m0, .inr (4, [.ref m1, .ref m2, .int (nI bk), .ref m3, .ref m4, .ref m5, .ref m6, .int sd, .ref m7, .ref m8, .int cl, .int pc, .int op])), (m1, .inl (km1, 93, .inl gg_24)), (m2, .inl (km2, 93, .inl gg_9)), (m3, .inl (km3, 3720, .inl bc)), (m4, .inl (km4, 186, .inl im)), (m5, .inl (km5, 2, .inl isd)), (m6, .inl (km6, 2, .inl kp)), (m7, .inl (km7, 1525, .inl vl_19)), (m8, .inl (km8, 24, .inl pl))]) [0, 1, 2, 3, 4, 5, 6, 7, 8] rfl
                  have hD9 := hD.sub (ws' := [(m0, .inr (4, [.ref m1, .ref m2, .int (nI bk), .ref m3, .ref m4, .ref m5, .ref m6, .int sd, .ref m7, .ref m8, .int cl, .int pc, .int op])), (m1, .inl (km1, 93, .inl gg_24)), (m2, .inl (km2, 93, .inl gg_9)), (m3, .inl (km3, 3720, .inl bc)), (m4, .inl (km4, 186, .inl im)), (m5, .inl (km5, 2, .inl isd)), (m6, .inl (km6, 2, .inl kp)), (m7, .inl (km7, 1525, .inl vl_19)), (m8, .inl (km8, 24, .inl pl))]) [0, 1, 2, 3, 4, 5, 6, 7, 8] (by decide) rfl
                  have hK9 := hK.sub (tys' := [(km1, .int), (km2, .int), (km3, .int), (km4, .int), (km5, .int), (km6, .boolean), (km7, .int), (km8, .int)]) [0, 1, 2, 3, 4, 5, 6, 7] rfl
                  subst hAe
                  exact W.iret (v := ((-1))) hx hb hr (fun t ht hW => ⟨⟨_, _, rfl, rfl, bk, sd, cl, pc, op, gg_24, gg_9, bc, im, isd, vl_19, pl, (by first | assumption | omega), (by first | assumption | omega), (by first | assumption | omega), (by first | assumption | omega), (by first | assumption | omega), by rw [ht]; exact hP9, va_K.moved hW.alike hK9, hD9⟩, hS.F ht⟩) hS.2.2 dX4_gain_208
                · refine lv_iload_n hx hb dX4_gain_195 rfl (lv_at hl 0 rfl) ?_
                  refine lv_ldc (own := RX4) (v := (-500000000)) hx hb hown (hts (.constant RX4 67 (-500000000)) (List.mem_of_getElem? (i := 4) rfl)) dX4_gain_196 ?_
                  refine lv_icmp_ne (tgt := 205) hx hb dX4_gain_198 (by decide) (fun c_198 => ?_) (fun c_198 => ?_)
                  · refine lv_iload_n hx hb dX4_gain_205 rfl (lv_at hl 0 rfl) ?_
                    refine lv_iload_n hx hb dX4_gain_206 rfl (lv_at hl 3 rfl) ?_
                    refine lv_isub hx hb dX4_gain_207 ?_
                    refine tp_any (fun y_26 => ?_)
                    subst hQe
                    have hP9 := hP.sub (ws' := [(m0, .inr (4, [.ref m1, .ref m2, .int (nI bk), .ref m3, .ref m4, .ref m5, .ref m6, .int sd, .ref m7, .ref m8, .int cl, .int pc, .int op])), (m1, .inl (km1, 93, .inl gg_24)), (m2, .inl (km2, 93, .inl gg_9)), (m3, .inl (km3, 3720, .inl bc)), (m4, .inl (km4, 186, .inl im)), (m5, .inl (km5, 2, .inl isd)), (m6, .inl (km6, 2, .inl kp)), (m7, .inl (km7, 1525, .inl vl_19)), (m8, .inl (km8, 24, .inl pl))]) [0, 1, 2, 3, 4, 5, 6, 7, 8] rfl
                    have hD9 := hD.sub (ws' := [(m0, .inr (4, [.ref m1, .ref m2, .int (nI bk), .ref m3, .ref m4, .ref m5, .ref m6, .int sd, .ref m7, .ref m8, .int cl, .int pc, .int op])), (m1, .inl (km1, 93, .inl gg_24)), (m2, .inl (km2, 93, .inl gg_9)), (m3, .inl (km3, 3720, .inl bc)), (m4, .inl (km4, 186, .inl im)), (m5, .inl (km5, 2, .inl isd)), (m6, .inl (km6, 2, .inl kp)), (m7, .inl (km7, 1525, .inl vl_19)), (m8, .inl (km8, 24, .inl pl))]) [0, 1, 2, 3, 4, 5, 6, 7, 8] (by decide) rfl
                    have hK9 := hK.sub (tys' := [(km1, .int), (km2, .int), (km3, .int), (km4, .int), (km5, .int), (km6, .boolean), (km7, .int), (km8, .int)]) [0, 1, 2, 3, 4, 5, 6, 7] rfl
                    subst hAe
                    exact W.iret (v := y_26) hx hb hr (fun t ht hW => ⟨⟨_, _, rfl, rfl, bk, sd, cl, pc, op, gg_24, gg_9, bc, im, isd, vl_19, pl, (by first | assumption | omega), (by first | assumption | omega), (by first | assumption | omega), (by first | assumption | omega), (by first | assumption | omega), by rw [ht]; exact hP9, va_K.moved hW.alike hK9, hD9⟩, hS.F ht⟩) hS.2.2 dX4_gain_208
                  · refine lv_iconst (v := (-1)) hx hb dX4_gain_201 (by decide) ?_
                    refine lv_goto (tgt := 208) hx hb dX4_gain_202 (by decide) ?_
                    subst hQe
                    have hP9 := hP.sub (ws' := [(m0, .inr (4, [.ref m1, .ref m2, .int (nI bk), .ref m3, .ref m4, .ref m5, .ref m6, .int sd, .ref m7, .ref m8, .int cl, .int pc, .int op])), (m1, .inl (km1, 93, .inl gg_24)), (m2, .inl (km2, 93, .inl gg_9)), (m3, .inl (km3, 3720, .inl bc)), (m4, .inl (km4, 186, .inl im)), (m5, .inl (km5, 2, .inl isd)), (m6, .inl (km6, 2, .inl kp)), (m7, .inl (km7, 1525, .inl vl_19)), (m8, .inl (km8, 24, .inl pl))]) [0, 1, 2, 3, 4, 5, 6, 7, 8] rfl
                    have hD9 := hD.sub (ws' := [(m0, .inr (4, [.ref m1, .ref m2, .int (nI bk), .ref m3, .ref m4, .ref m5, .ref m6, .int sd, .ref m7, .ref m8, .int cl, .int pc, .int op])), (m1, .inl (km1, 93, .inl gg_24)), (m2, .inl (km2, 93, .inl gg_9)), (m3, .inl (km3, 3720, .inl bc)), (m4, .inl (km4, 186, .inl im)), (m5, .inl (km5, 2, .inl isd)), (m6, .inl (km6, 2, .inl kp)), (m7, .inl (km7, 1525, .inl vl_19)), (m8, .inl (km8, 24, .inl pl))]) [0, 1, 2, 3, 4, 5, 6, 7, 8] (by decide) rfl
                    have hK9 := hK.sub (tys' := [(km1, .int), (km2, .int), (km3, .int), (km4, .int), (km5, .int), (km6, .boolean), (km7, .int), (km8, .int)]) [0, 1, 2, 3, 4, 5, 6, 7] rfl
                    subst hAe
                    exact W.iret (v := ((-1))) hx hb hr (fun t ht hW => ⟨⟨_, _, rfl, rfl, bk, sd, cl, pc, op, gg_24, gg_9, bc, im, isd, vl_19, pl, (by first | assumption | omega), (by first | assumption | omega), (by first | assumption | omega), (by first | assumption | omega), (by first | assumption | omega), by rw [ht]; exact hP9, va_K.moved hW.alike hK9, hD9⟩, hS.F ht⟩) hS.2.2 dX4_gain_208
              refine lv_icmp_ne (tgt := 166) hx hb dX4_gain_150 (by decide) (fun c_150 => ?_) (fun c_150 => ?_)
              · have c_150 := (not_congr (nI_eq (by omega : j_2 < 2 ^ 31) (by omega : 3 < 2 ^ 31))).mp c_150
                refine lv_iconst (v := nI 0) hx hb dX4_gain_166 (by decide) ?_
                exact J167 (nI 0) _ _ _  hP hD hS (lv_sub hl [0, 1, 2] rfl)
              · have c_150 := (nI_eq (by omega : j_2 < 2 ^ 31) (by omega : 3 < 2 ^ 31)).mp c_150
                refine lv_aload_n hx hb dX4_gain_153 rfl (lv_at hl 0 rfl) ?_
                refine va_get (D := (dC, dI)) (ci := 4) (v := .ref m1) (C := RX4) (T := TX4) (N := 13) hx hb hts inX4 hown hK hP 0 rfl rfl 0 (by decide) (hts (.fieldLink RX4 7 "StoreSlopesModel" "now" "[I") (List.mem_of_getElem? (i := 2) rfl)) (fun _ h9 => h9) rfl dX4_gain_154 ?_
                refine lv_iconst (v := nI 4) hx hb dX4_gain_157 (by decide) ?_
                refine va_iald hx hb hK hP 1 0 rfl rfl (vp_in_nI (show 4 < 93 by omega) (by omega)) dX4_gain_158 ?_
                refine tp_any (fun y_27 => ?_)
                refine lv_if_le (tgt := 166) hx hb dX4_gain_159 (by decide) (fun c_159 => ?_) (fun c_159 => ?_)
                · refine lv_iconst (v := nI 0) hx hb dX4_gain_166 (by decide) ?_
                  exact J167 (nI 0) _ _ _  hP hD hS (lv_sub hl [0, 1, 2] rfl)
                · refine lv_iconst (v := nI 1) hx hb dX4_gain_162 (by decide) ?_
                  refine lv_goto (tgt := 167) hx hb dX4_gain_163 (by decide) ?_
                  exact J167 (nI 1) _ _ _  hP hD hS (lv_sub hl [0, 1, 2] rfl)
            refine lv_icmp_ne (tgt := 138) hx hb dX4_gain_120 (by decide) (fun c_120 => ?_) (fun c_120 => ?_)
            · have c_120 := (not_congr (nI_eq (by omega : j_2 < 2 ^ 31) (by omega : 2 < 2 ^ 31))).mp c_120
              refine lv_iconst (v := nI 0) hx hb dX4_gain_138 (by decide) ?_
              exact J139 0 _ _ _ (by first | assumption | omega) hP hD hS (lv_sub hl [0, 1, 2] rfl)
            · have c_120 := (nI_eq (by omega : j_2 < 2 ^ 31) (by omega : 2 < 2 ^ 31)).mp c_120
              refine lv_aload_n hx hb dX4_gain_123 rfl (lv_at hl 0 rfl) ?_
              refine va_get (D := (dC, dI)) (ci := 4) (v := .ref m1) (C := RX4) (T := TX4) (N := 13) hx hb hts inX4 hown hK hP 0 rfl rfl 0 (by decide) (hts (.fieldLink RX4 7 "StoreSlopesModel" "now" "[I") (List.mem_of_getElem? (i := 2) rfl)) (fun _ h9 => h9) rfl dX4_gain_124 ?_
              refine lv_iconst (v := nI 3) hx hb dX4_gain_127 (by decide) ?_
              refine va_iald hx hb hK hP 1 0 rfl rfl (vp_in_nI (show 3 < 93 by omega) (by omega)) dX4_gain_128 ?_
              refine tp_as (cl_as (by omega) ej_13) ?_
              refine lv_bipush (v := nI 9) hx hb dX4_gain_129 (by decide) ?_
              refine lv_icmp_ge (tgt := 138) hx hb dX4_gain_131 (by decide) (fun c_131 => ?_) (fun c_131 => ?_)
              · have c_131 := (nI_leI (by omega : 9 < 2 ^ 31) (by omega : j_13 < 2 ^ 31)).mp c_131
                refine lv_iconst (v := nI 0) hx hb dX4_gain_138 (by decide) ?_
                exact J139 0 _ _ _ (by first | assumption | omega) hP hD hS (lv_sub hl [0, 1, 2] rfl)
              · have c_131 := (not_congr (nI_leI (by omega : 9 < 2 ^ 31) (by omega : j_13 < 2 ^ 31))).mp c_131
                refine lv_iconst (v := nI 1) hx hb dX4_gain_134 (by decide) ?_
                refine lv_goto (tgt := 139) hx hb dX4_gain_135 (by decide) ?_
                exact J139 1 _ _ _ (by first | assumption | omega) hP hD hS (lv_sub hl [0, 1, 2] rfl)
          refine lv_icmp_ne (tgt := 108) hx hb dX4_gain_90 (by decide) (fun c_90 => ?_) (fun c_90 => ?_)
          · have c_90 := (not_congr (nI_eq (by omega : j_2 < 2 ^ 31) (by omega : 1 < 2 ^ 31))).mp c_90
            refine lv_iconst (v := nI 0) hx hb dX4_gain_108 (by decide) ?_
            exact J109 0 _ _ _ (by first | assumption | omega) hP hD hS (lv_sub hl [0, 1, 2] rfl)
          · have c_90 := (nI_eq (by omega : j_2 < 2 ^ 31) (by omega : 1 < 2 ^ 31)).mp c_90
            refine lv_aload_n hx hb dX4_gain_93 rfl (lv_at hl 0 rfl) ?_
            refine va_get (D := (dC, dI)) (ci := 4) (v := .ref m1) (C := RX4) (T := TX4) (N := 13) hx hb hts inX4 hown hK hP 0 rfl rfl 0 (by decide) (hts (.fieldLink RX4 7 "StoreSlopesModel" "now" "[I") (List.mem_of_getElem? (i := 2) rfl)) (fun _ h9 => h9) rfl dX4_gain_94 ?_
            refine lv_iconst (v := nI 2) hx hb dX4_gain_97 (by decide) ?_
            refine va_iald hx hb hK hP 1 0 rfl rfl (vp_in_nI (show 2 < 93 by omega) (by omega)) dX4_gain_98 ?_
            refine tp_as (cl_as (by omega) ej_11) ?_
            refine lv_bipush (v := nI 9) hx hb dX4_gain_99 (by decide) ?_
            refine lv_icmp_ge (tgt := 108) hx hb dX4_gain_101 (by decide) (fun c_101 => ?_) (fun c_101 => ?_)
            · have c_101 := (nI_leI (by omega : 9 < 2 ^ 31) (by omega : j_11 < 2 ^ 31)).mp c_101
              refine lv_iconst (v := nI 0) hx hb dX4_gain_108 (by decide) ?_
              exact J109 0 _ _ _ (by first | assumption | omega) hP hD hS (lv_sub hl [0, 1, 2] rfl)
            · have c_101 := (not_congr (nI_leI (by omega : 9 < 2 ^ 31) (by omega : j_11 < 2 ^ 31))).mp c_101
              refine lv_iconst (v := nI 1) hx hb dX4_gain_104 (by decide) ?_
              refine lv_goto (tgt := 109) hx hb dX4_gain_105 (by decide) ?_
              exact J109 1 _ _ _ (by first | assumption | omega) hP hD hS (lv_sub hl [0, 1, 2] rfl)
        · have c_37 := (not_congr (nI_leI (by omega : 24 < 2 ^ 31) (by omega : i < 2 ^ 31))).mp c_37
          refine lv_iload_n hx hb dX4_gain_40 rfl (lv_at hl 1 rfl) ?_
          refine lv_if_ne (tgt := 81) hx hb dX4_gain_41 (by decide) (fun c_41 => ?_) (fun c_41 => ?_)
          · have c_41 := (not_congr (z_eq (by omega : j_2 < 2 ^ 31))).mp c_41
            refine lv_aload_n hx hb dX4_gain_81 rfl (lv_at hl 0 rfl) ?_
            refine va_get (D := (dC, dI)) (ci := 4) (v := .ref m1) (C := RX4) (T := TX4) (N := 13) hx hb hts inX4 hown hK hP 0 rfl rfl 0 (by decide) (hts (.fieldLink RX4 7 "StoreSlopesModel" "now" "[I") (List.mem_of_getElem? (i := 2) rfl)) (fun _ h9 => h9) rfl dX4_gain_82 ?_
            refine lv_iconst (v := nI 2) hx hb dX4_gain_85 (by decide) ?_
            refine lv_dup2_11 hx hb dX4_gain_86 rfl rfl ?_
            obtain ⟨j_28, hj_28, ej_28⟩ := (show okN nwv by assumption).2.2.1
            refine va_iald hx hb hK hP 1 0 rfl rfl (vp_in_nI (show 2 < 93 by omega) (by omega)) dX4_gain_87 ?_
            refine tp_as (cl_as (by omega) ej_28) ?_
            refine lv_iload_n hx hb dX4_gain_88 rfl (lv_at hl 1 rfl) ?_
            refine lv_iconst (v := nI 1) hx hb dX4_gain_89 (by decide) ?_
            have J109 : ∀ (ee109 : Nat) (H : Heap) (locs : List Loc) (ls : Array Slot), j_28 + ee109 ≤ 9 → va_P (dC, dI) vwCl [(m0, .inr (4, [.ref m1, .ref m2, .int (nI bk), .ref m3, .ref m4, .ref m5, .ref m6, .int sd, .ref m7, .ref m8, .int cl, .int pc, .int op])), (m1, .inl (km1, 93, .inl nwv)), (m2, .inl (km2, 93, .inl gg_9)), (m3, .inl (km3, 3720, .inl bc)), (m4, .inl (km4, 186, .inl im)), (m5, .inl (km5, 2, .inl isd)), (m6, .inl (km6, 2, .inl kp)), (m7, .inl (km7, 1525, .inl vl_4)), (m8, .inl (km8, 24, .inl pl))] H → va_D A [(m0, .inr (4, [.ref m1, .ref m2, .int (nI bk), .ref m3, .ref m4, .ref m5, .ref m6, .int sd, .ref m7, .ref m8, .int cl, .int pc, .int op])), (m1, .inl (km1, 93, .inl nwv)), (m2, .inl (km2, 93, .inl gg_9)), (m3, .inl (km3, 3720, .inl bc)), (m4, .inl (km4, 186, .inl im)), (m5, .inl (km5, 2, .inl isd)), (m6, .inl (km6, 2, .inl kp)), (m7, .inl (km7, 1525, .inl vl_4)), (m8, .inl (km8, 24, .inl pl))] → va_S A s.heap H locs → lv_has ls 4 [(0, .ref m0), (1, .int (nI j_2)), (2, .int r_3)] → W p l e (headSpec wsX4_gain { frames := 7, cells := 0, slots := 0, locals := 162 }).room s m args below meth c H locs 0 0 Q (F0 m 109 ls [.int (nI ee109), .int (nI j_28), .int (nI 2), .ref m1]) := by
              intro ee109 H locs ls hJ109_0 hP hD hS hl
              refine lv_iadd hx hb dX4_gain_109 ?_
              refine tp_as (nI_add j_28 ee109) ?_
              refine va_iast hx hb hK hP hD hS 1 0 rfl rfl (vp_in_nI (show 2 < 93 by omega) (by omega)) dX4_gain_110 (fun H locs hP hD hS => ?_)
              have hP : va_P (dC, dI) vwCl [(m0, .inr (4, [.ref m1, .ref m2, .int (nI bk), .ref m3, .ref m4, .ref m5, .ref m6, .int sd, .ref m7, .ref m8, .int cl, .int pc, .int op])), (m1, .inl (km1, 93, .inl (upd nwv (nI 2).toNatClampNeg (nI (j_28 + ee109))))), (m2, .inl (km2, 93, .inl gg_9)), (m3, .inl (km3, 3720, .inl bc)), (m4, .inl (km4, 186, .inl im)), (m5, .inl (km5, 2, .inl isd)), (m6, .inl (km6, 2, .inl kp)), (m7, .inl (km7, 1525, .inl vl_4)), (m8, .inl (km8, 24, .inl pl))] H := hP
              have hD : va_D A [(m0, .inr (4, [.ref m1, .ref m2, .int (nI bk), .ref m3, .ref m4, .ref m5, .ref m6, .int sd, .ref m7, .ref m8, .int cl, .int pc, .int op])), (m1, .inl (km1, 93, .inl (upd nwv (nI 2).toNatClampNeg (nI (j_28 + ee109))))), (m2, .inl (km2, 93, .inl gg_9)), (m3, .inl (km3, 3720, .inl bc)), (m4, .inl (km4, 186, .inl im)), (m5, .inl (km5, 2, .inl isd)), (m6, .inl (km6, 2, .inl kp)), (m7, .inl (km7, 1525, .inl vl_4)), (m8, .inl (km8, 24, .inl pl))] := hD
              generalize ef_29 : upd nwv (nI 2).toNatClampNeg (nI (j_28 + ee109)) = f_29 at hP hD
              have bf_29 : okN f_29 := okN_upd (by assumption) ef_29 (by omega) (by refine ⟨fun q => ?_, fun q => ?_, fun q => ?_, fun q => ?_, fun q => ?_, fun q q2 => ?_⟩ <;> first | (exfalso; omega) | exact ⟨_, by omega, rfl⟩)
              clear ef_29
              refine lv_aload_n hx hb dX4_gain_111 rfl (lv_at hl 0 rfl) ?_
              refine va_get (D := (dC, dI)) (ci := 4) (v := .ref m1) (C := RX4) (T := TX4) (N := 13) hx hb hts inX4 hown hK hP 0 rfl rfl 0 (by decide) (hts (.fieldLink RX4 7 "StoreSlopesModel" "now" "[I") (List.mem_of_getElem? (i := 2) rfl)) (fun _ h9 => h9) rfl dX4_gain_112 ?_
              refine lv_iconst (v := nI 3) hx hb dX4_gain_115 (by decide) ?_
              refine lv_dup2_11 hx hb dX4_gain_116 rfl rfl ?_
              obtain ⟨j_30, hj_30, ej_30⟩ := (show okN f_29 by assumption).2.2.2.1
              refine va_iald hx hb hK hP 1 0 rfl rfl (vp_in_nI (show 3 < 93 by omega) (by omega)) dX4_gain_117 ?_
              refine tp_as (cl_as (by omega) ej_30) ?_
              refine lv_iload_n hx hb dX4_gain_118 rfl (lv_at hl 1 rfl) ?_
              refine lv_iconst (v := nI 2) hx hb dX4_gain_119 (by decide) ?_
              have J139 : ∀ (ee139 : Nat) (H : Heap) (locs : List Loc) (ls : Array Slot), j_30 + ee139 ≤ 9 → va_P (dC, dI) vwCl [(m0, .inr (4, [.ref m1, .ref m2, .int (nI bk), .ref m3, .ref m4, .ref m5, .ref m6, .int sd, .ref m7, .ref m8, .int cl, .int pc, .int op])), (m1, .inl (km1, 93, .inl f_29)), (m2, .inl (km2, 93, .inl gg_9)), (m3, .inl (km3, 3720, .inl bc)), (m4, .inl (km4, 186, .inl im)), (m5, .inl (km5, 2, .inl isd)), (m6, .inl (km6, 2, .inl kp)), (m7, .inl (km7, 1525, .inl vl_4)), (m8, .inl (km8, 24, .inl pl))] H → va_D A [(m0, .inr (4, [.ref m1, .ref m2, .int (nI bk), .ref m3, .ref m4, .ref m5, .ref m6, .int sd, .ref m7, .ref m8, .int cl, .int pc, .int op])), (m1, .inl (km1, 93, .inl f_29)), (m2, .inl (km2, 93, .inl gg_9)), (m3, .inl (km3, 3720, .inl bc)), (m4, .inl (km4, 186, .inl im)), (m5, .inl (km5, 2, .inl isd)), (m6, .inl (km6, 2, .inl kp)), (m7, .inl (km7, 1525, .inl vl_4)), (m8, .inl (km8, 24, .inl pl))] → va_S A s.heap H locs → lv_has ls 4 [(0, .ref m0), (1, .int (nI j_2)), (2, .int r_3)] → W p l e (headSpec wsX4_gain { frames := 7, cells := 0, slots := 0, locals := 162 }).room s m args below meth c H locs 0 0 Q (F0 m 139 ls [.int (nI ee139), .int (nI j_30), .int (nI 3), .ref m1]) := by
                intro ee139 H locs ls hJ139_0 hP hD hS hl
                refine lv_iadd hx hb dX4_gain_139 ?_
                refine tp_as (nI_add j_30 ee139) ?_
                refine va_iast hx hb hK hP hD hS 1 0 rfl rfl (vp_in_nI (show 3 < 93 by omega) (by omega)) dX4_gain_140 (fun H locs hP hD hS => ?_)
                have hP : va_P (dC, dI) vwCl [(m0, .inr (4, [.ref m1, .ref m2, .int (nI bk), .ref m3, .ref m4, .ref m5, .ref m6, .int sd, .ref m7, .ref m8, .int cl, .int pc, .int op])), (m1, .inl (km1, 93, .inl (upd f_29 (nI 3).toNatClampNeg (nI (j_30 + ee139))))), (m2, .inl (km2, 93, .inl gg_9)), (m3, .inl (km3, 3720, .inl bc)), (m4, .inl (km4, 186, .inl im)), (m5, .inl (km5, 2, .inl isd)), (m6, .inl (km6, 2, .inl kp)), (m7, .inl (km7, 1525, .inl vl_4)), (m8, .inl (km8, 24, .inl pl))] H := hP
                have hD : va_D A [(m0, .inr (4, [.ref m1, .ref m2, .int (nI bk), .ref m3, .ref m4, .ref m5, .ref m6, .int sd, .ref m7, .ref m8, .int cl, .int pc, .int op])), (m1, .inl (km1, 93, .inl (upd f_29 (nI 3).toNatClampNeg (nI (j_30 + ee139))))), (m2, .inl (km2, 93, .inl gg_9)), (m3, .inl (km3, 3720, .inl bc)), (m4, .inl (km4, 186, .inl im)), (m5, .inl (km5, 2, .inl isd)), (m6, .inl (km6, 2, .inl kp)), (m7, .inl (km7, 1525, .inl vl_4)), (m8, .inl (km8, 24, .inl pl))] := hD
                generalize ef_31 : upd f_29 (nI 3).toNatClampNeg (nI (j_30 + ee139)) = f_31 at hP hD
                have bf_31 : okN f_31 := okN_upd (by assumption) ef_31 (by omega) (by refine ⟨fun q => ?_, fun q => ?_, fun q => ?_, fun q => ?_, fun q => ?_, fun q q2 => ?_⟩ <;> first | (exfalso; omega) | exact ⟨_, by omega, rfl⟩)
                clear ef_31
                refine lv_aload_n hx hb dX4_gain_141 rfl (lv_at hl 0 rfl) ?_
                refine va_get (D := (dC, dI)) (ci := 4) (v := .ref m1) (C := RX4) (T := TX4) (N := 13) hx hb hts inX4 hown hK hP 0 rfl rfl 0 (by decide) (hts (.fieldLink RX4 7 "StoreSlopesModel" "now" "[I") (List.mem_of_getElem? (i := 2) rfl)) (fun _ h9 => h9) rfl dX4_gain_142 ?_
                refine lv_iconst (v := nI 4) hx hb dX4_gain_145 (by decide) ?_
                refine lv_dup2_11 hx hb dX4_gain_146 rfl rfl ?_
                refine va_iald hx hb hK hP 1 0 rfl rfl (vp_in_nI (show 4 < 93 by omega) (by omega)) dX4_gain_147 ?_
                refine tp_any (fun y_32 => ?_)
                refine lv_iload_n hx hb dX4_gain_148 rfl (lv_at hl 1 rfl) ?_
                refine lv_iconst (v := nI 3) hx hb dX4_gain_149 (by decide) ?_
                have J167 : ∀ (ee : Int32) (H : Heap) (locs : List Loc) (ls : Array Slot), va_P (dC, dI) vwCl [(m0, .inr (4, [.ref m1, .ref m2, .int (nI bk), .ref m3, .ref m4, .ref m5, .ref m6, .int sd, .ref m7, .ref m8, .int cl, .int pc, .int op])), (m1, .inl (km1, 93, .inl f_31)), (m2, .inl (km2, 93, .inl gg_9)), (m3, .inl (km3, 3720, .inl bc)), (m4, .inl (km4, 186, .inl im)), (m5, .inl (km5, 2, .inl isd)), (m6, .inl (km6, 2, .inl kp)), (m7, .inl (km7, 1525, .inl vl_4)), (m8, .inl (km8, 24, .inl pl))] H → va_D A [(m0, .inr (4, [.ref m1, .ref m2, .int (nI bk), .ref m3, .ref m4, .ref m5, .ref m6, .int sd, .ref m7, .ref m8, .int cl, .int pc, .int op])), (m1, .inl (km1, 93, .inl f_31)), (m2, .inl (km2, 93, .inl gg_9)), (m3, .inl (km3, 3720, .inl bc)), (m4, .inl (km4, 186, .inl im)), (m5, .inl (km5, 2, .inl isd)), (m6, .inl (km6, 2, .inl kp)), (m7, .inl (km7, 1525, .inl vl_4)), (m8, .inl (km8, 24, .inl pl))] → va_S A s.heap H locs → lv_has ls 4 [(0, .ref m0), (1, .int (nI j_2)), (2, .int r_3)] → W p l e (headSpec wsX4_gain { frames := 7, cells := 0, slots := 0, locals := 162 }).room s m args below meth c H locs 0 0 Q (F0 m 167 ls [.int ee, .int y_32, .int (nI 4), .ref m1]) := by
                  intro ee H locs ls hP hD hS hl
                  refine lv_isub hx hb dX4_gain_167 ?_
                  refine tp_any (fun y_33 => ?_)
                  refine va_iast hx hb hK hP hD hS 1 0 rfl rfl (vp_in_nI (show 4 < 93 by omega) (by omega)) dX4_gain_168 (fun H locs hP hD hS => ?_)
                  have hP : va_P (dC, dI) vwCl [(m0, .inr (4, [.ref m1, .ref m2, .int (nI bk), .ref m3, .ref m4, .ref m5, .ref m6, .int sd, .ref m7, .ref m8, .int cl, .int pc, .int op])), (m1, .inl (km1, 93, .inl (upd f_31 (nI 4).toNatClampNeg (y_33)))), (m2, .inl (km2, 93, .inl gg_9)), (m3, .inl (km3, 3720, .inl bc)), (m4, .inl (km4, 186, .inl im)), (m5, .inl (km5, 2, .inl isd)), (m6, .inl (km6, 2, .inl kp)), (m7, .inl (km7, 1525, .inl vl_4)), (m8, .inl (km8, 24, .inl pl))] H := hP
                  have hD : va_D A [(m0, .inr (4, [.ref m1, .ref m2, .int (nI bk), .ref m3, .ref m4, .ref m5, .ref m6, .int sd, .ref m7, .ref m8, .int cl, .int pc, .int op])), (m1, .inl (km1, 93, .inl (upd f_31 (nI 4).toNatClampNeg (y_33)))), (m2, .inl (km2, 93, .inl gg_9)), (m3, .inl (km3, 3720, .inl bc)), (m4, .inl (km4, 186, .inl im)), (m5, .inl (km5, 2, .inl isd)), (m6, .inl (km6, 2, .inl kp)), (m7, .inl (km7, 1525, .inl vl_4)), (m8, .inl (km8, 24, .inl pl))] := hD
                  generalize ef_34 : upd f_31 (nI 4).toNatClampNeg (y_33) = f_34 at hP hD
                  have bf_34 : okN f_34 := okN_upd (by assumption) ef_34 (by omega) (by refine ⟨fun q => ?_, fun q => ?_, fun q => ?_, fun q => ?_, fun q => ?_, fun q q2 => ?_⟩ <;> first | (exfalso; omega) | exact ⟨_, by omega, rfl⟩)
                  clear ef_34
                  refine lv_aload_n hx hb dX4_gain_169 rfl (lv_at hl 0 rfl) ?_
                  have hPc := hP.sub (ws' := [(m0, .inr (4, [.ref m1, .ref m2, .int (nI bk), .ref m3, .ref m4, .ref m5, .ref m6, .int sd, .ref m7, .ref m8, .int cl, .int pc, .int op])), (m1, .inl (km1, 93, .inl f_34)), (m7, .inl (km7, 1525, .inl vl_4))]) [0, 1, 7] rfl
                  have hKc := hK.sub (tys' := [(km1, .int), (km7, .int)]) [0, 6] rfl
                  have hDc := hD.sub (ws' := [(m0, .inr (4, [.ref m1, .ref m2, .int (nI bk), .ref m3, .ref m4, .ref m5, .ref m6, .int sd, .ref m7, .ref m8, .int cl, .int pc, .int op])), (m1, .inl (km1, 93, .inl f_34)), (m7, .inl (km7, 1525, .inl vl_4))]) [0, 1, 7] (by decide) rfl
                  have hFc := va_free (wc := [(m0, .inr (4, [.ref m1, .ref m2, .int (nI bk), .ref m3, .ref m4, .ref m5, .ref m6, .int sd, .ref m7, .ref m8, .int cl, .int pc, .int op])), (m1, .inl (km1, 93, .inl f_34)), (m7, .inl (km7, 1525, .inl vl_4))]) hD hS hA [0, 1, 7] rfl
                  refine va_calli (va_runV (As := []) (rest := []) ⟨hx, hb, hml, hown, hts⟩ (c_X4_bestOf l dC dI m0 m1 m7 m2 m3 m4 m5 m6 m8 km1 km7 H.size bk sd cl pc op f_34 vl_4  (by first | assumption | omega) (by first | assumption | omega) ) (cwV 0 hts gX4_gain_X4_bestOf rfl rfl rfl (by decide +kernel) ⟨Nat.le_of_ble_eq_true rfl, Nat.le_of_ble_eq_true rfl⟩) ⟨fun a U g mk q => by obtain ⟨q0, q1, qP, qK, qD⟩ := q; exact ⟨q0, q1, qP, va_K.moved (u := U) (U := U.calling g mk a) (Vm.Alike.refl U.vm) qK, qD⟩, va_recv hKc hPc (ci := 4) (q0 := 0) rfl rfl, fun U hU hW => ⟨rfl, by rw [hU], by rw [hU]; exact hPc, va_K.moved hW.alike hKc, hDc.weaken (fun _ _ _ _ => trivial)⟩⟩ rfl rfl hl.1 rfl (lv_room (Nat.le_of_ble_eq_true rfl)) dX4_gain_170 ⟨Nat.le_of_ble_eq_true rfl, Nat.le_of_ble_eq_true rfl⟩) hS (fun q _ h => hFc q h) hFc (fun r_35 u9 t9 H1 locs ht hvm hw hB hz1 hk1 hS => ?_)
                  refine W.widen (k := 0) (n := 0) (Nat.le_of_ble_eq_true rfl) (Nat.le_of_ble_eq_true rfl) ?_
                  obtain ⟨vl_36, h_37, h_38, hP1, hK1, hD1⟩ := hB
                  rw [ht] at hP1
                  have hw := hw.symm
                  subst hw
                  obtain ⟨hP, hD⟩ := va_join (wr := [(m2, .inl (km2, 93, .inl gg_9)), (m3, .inl (km3, 3720, .inl bc)), (m4, .inl (km4, 186, .inl im)), (m5, .inl (km5, 2, .inl isd)), (m6, .inl (km6, 2, .inl kp)), (m8, .inl (km8, 24, .inl pl))]) (w1 := [(m0, .inr (4, [.ref m1, .ref m2, .int (nI bk), .ref m3, .ref m4, .ref m5, .ref m6, .int sd, .ref m7, .ref m8, .int cl, .int pc, .int op])), (m1, .inl (km1, 93, .inl f_34)), (m7, .inl (km7, 1525, .inl vl_36))]) hP hD [0, 1, 7] [2, 3, 4, 5, 6, 8] rfl rfl (by decide) (by decide) hk1 hFc hP1 hD1
                  clear hPc hDc hKc hFc hz1 hk1 ht hvm hP1 hK1 hD1 t9
                  generalize H1 = H at hP hS ⊢
                  have hP := hP.sub (ws' := [(m0, .inr (4, [.ref m1, .ref m2, .int (nI bk), .ref m3, .ref m4, .ref m5, .ref m6, .int sd, .ref m7, .ref m8, .int cl, .int pc, .int op])), (m1, .inl (km1, 93, .inl f_34)), (m2, .inl (km2, 93, .inl gg_9)), (m3, .inl (km3, 3720, .inl bc)), (m4, .inl (km4, 186, .inl im)), (m5, .inl (km5, 2, .inl isd)), (m6, .inl (km6, 2, .inl kp)), (m7, .inl (km7, 1525, .inl vl_36)), (m8, .inl (km8, 24, .inl pl))]) [6, 7, 0, 1, 2, 3, 4, 8, 5] rfl
                  have hD := hD.sub (ws' := [(m0, .inr (4, [.ref m1, .ref m2, .int (nI bk), .ref m3, .ref m4, .ref m5, .ref m6, .int sd, .ref m7, .ref m8, .int cl, .int pc, .int op])), (m1, .inl (km1, 93, .inl f_34)), (m2, .inl (km2, 93, .inl gg_9)), (m3, .inl (km3, 3720, .inl bc)), (m4, .inl (km4, 186, .inl im)), (m5, .inl (km5, 2, .inl isd)), (m6, .inl (km6, 2, .inl kp)), (m7, .inl (km7, 1525, .inl vl_36)), (m8, .inl (km8, 24, .inl pl))]) [6, 7, 0, 1, 2, 3, 4, 8, 5] (by decide) rfl
                  refine lv_istore_n (lv' := [(3, .int r_35), (0, .ref m0), (1, .int (nI j_2)), (2, .int r_3)]) hx hb dX4_gain_173 rfl hl (by decide) rfl (fun ls hl => ?_)
                  refine lv_aload_n hx hb dX4_gain_174 rfl (lv_at hl 1 rfl) ?_
                  refine va_get (D := (dC, dI)) (ci := 4) (v := .ref m2) (C := RX4) (T := TX4) (N := 13) hx hb hts inX4 hown hK hP 0 rfl rfl 1 (by decide) (hts (.fieldLink RX4 13 "StoreSlopesModel" "was" "[I") (List.mem_of_getElem? (i := 3) rfl)) (fun _ h9 => h9) rfl dX4_gain_175 ?_
                  refine lv_iconst (v := nI 0) hx hb dX4_gain_178 (by decide) ?_
                  refine lv_aload_n hx hb dX4_gain_179 rfl (lv_at hl 1 rfl) ?_
                  refine va_get (D := (dC, dI)) (ci := 4) (v := .ref m1) (C := RX4) (T := TX4) (N := 13) hx hb hts inX4 hown hK hP 0 rfl rfl 0 (by decide) (hts (.fieldLink RX4 7 "StoreSlopesModel" "now" "[I") (List.mem_of_getElem? (i := 2) rfl)) (fun _ h9 => h9) rfl dX4_gain_180 ?_
                  refine lv_iconst (v := nI 0) hx hb dX4_gain_183 (by decide) ?_
                  refine lv_bipush (v := nI 93) hx hb dX4_gain_184 (by decide) ?_
                  have hPc := hP.sub (ws' := [(m2, .inl (km2, 93, .inl gg_9)), (m1, .inl (km1, 93, .inl f_34))]) [2, 1] rfl
                  have hKc := hK.sub (tys' := [(km2, .int), (km1, .int)]) [1, 0] rfl
                  have hDc := hD.sub (ws' := [(m2, .inl (km2, 93, .inl gg_9)), (m1, .inl (km1, 93, .inl f_34))]) [2, 1] (by decide) rfl
                  have hFc := va_free (wc := [(m2, .inl (km2, 93, .inl gg_9)), (m1, .inl (km1, 93, .inl f_34))]) hD hS hA [2, 1] rfl
                  refine va_callv (va_runS (As := [.ref m2, .int (nI 0), .ref m1, .int (nI 0), .int (nI 93)]) (rest := []) ⟨hx, hb, hml, hown, hts⟩ (c_X4_bring l dC dI m2 m1 km2 km1 H.size 93 gg_9 93 f_34 0 0 93  (by first | assumption | omega) (by first | assumption | omega) (by first | assumption | omega) (by first | assumption | omega)) (va_cwS 5 hts gX4_gain_X4_bring rfl rfl rfl (by decide +kernel) ⟨Nat.le_of_ble_eq_true rfl, Nat.le_of_ble_eq_true rfl⟩) ⟨fun a U g mk q => by obtain ⟨q0, q1, qP, qK, qD⟩ := q; exact ⟨q0, q1, qP, va_K.moved (u := U) (U := U.calling g mk a) (Vm.Alike.refl U.vm) qK, qD⟩, fun U hU hW => ⟨rfl, by rw [hU], by rw [hU]; exact hPc, va_K.moved hW.alike hKc, hDc.weaken (fun _ _ _ _ => trivial)⟩⟩ rfl rfl hl.1 rfl (lv_room (Nat.le_of_ble_eq_true rfl)) dX4_gain_186 ⟨Nat.le_of_ble_eq_true rfl, Nat.le_of_ble_eq_true rfl⟩) hS (fun q _ h => hFc q h) hFc (fun u9 t9 H1 locs ht hvm hw hB hz1 hk1 hS => ?_)
                  refine W.widen (k := 0) (n := 0) (Nat.le_of_ble_eq_true rfl) (Nat.le_of_ble_eq_true rfl) ?_
                  obtain ⟨⟩ := u9
                  obtain ⟨gg_41, h_42, hP1, hK1, hD1⟩ := hB
                  rw [ht] at hP1
                  obtain ⟨hP, hD⟩ := va_join (wr := [(m0, .inr (4, [.ref m1, .ref m2, .int (nI bk), .ref m3, .ref m4, .ref m5, .ref m6, .int sd, .ref m7, .ref m8, .int cl, .int pc, .int op])), (m3, .inl (km3, 3720, .inl bc)), (m4, .inl (km4, 186, .inl im)), (m5, .inl (km5, 2, .inl isd)), (m6, .inl (km6, 2, .inl kp)), (m7, .inl (km7, 1525, .inl vl_36)), (m8, .inl (km8, 24, .inl pl))]) (w1 := [(m2, .inl (km2, 93, .inl gg_9)), (m1, .inl (km1, 93, .inl gg_41))]) hP hD [2, 1] [0, 3, 4, 5, 6, 7, 8] rfl rfl (by decide) (by decide) hk1 hFc hP1 hD1
                  clear hPc hDc hKc hFc hz1 hk1 ht hvm hP1 hK1 hD1 hw t9
                  generalize H1 = H at hP hS ⊢
                  have hP := hP.sub (ws' := [(m0, .inr (4, [.ref m1, .ref m2, .int (nI bk), .ref m3, .ref m4, .ref m5, .ref m6, .int sd, .ref m7, .ref m8, .int cl, .int pc, .int op])), (m1, .inl (km1, 93, .inl gg_41)), (m2, .inl (km2, 93, .inl gg_9)), (m3, .inl (km3, 3720, .inl bc)), (m4, .inl (km4, 186, .inl im)), (m5, .inl (km5, 2, .inl isd)), (m6, .inl (km6, 2, .inl kp)), (m7, .inl (km7, 1525, .inl vl_36)), (m8, .inl (km8, 24, .inl pl))]) [0, 8, 7, 1, 2, 3, 4, 5, 6] rfl
                  have hD := hD.sub (ws' := [(m0, .inr (4, [.ref m1, .ref m2, .int (nI bk), .ref m3, .ref m4, .ref m5, .ref m6, .int sd, .ref m7, .ref m8, .int cl, .int pc, .int op])), (m1, .inl (km1, 93, .inl gg_41)), (m2, .inl (km2, 93, .inl gg_9)), (m3, .inl (km3, 3720, .inl bc)), (m4, .inl (km4, 186, .inl im)), (m5, .inl (km5, 2, .inl isd)), (m6, .inl (km6, 2, .inl kp)), (m7, .inl (km7, 1525, .inl vl_36)), (m8, .inl (km8, 24, .inl pl))]) [0, 8, 7, 1, 2, 3, 4, 5, 6] (by decide) rfl
                  have hokg : okN gg_41 := okN_cpy (b := 0) (by simp only [Nat.zero_add]; exact hokw) h_42
                  refine lv_iload_n hx hb dX4_gain_189 rfl (lv_at hl 3 rfl) ?_
                  refine lv_ldc (own := RX4) (v := (-500000000)) hx hb hown (hts (.constant RX4 67 (-500000000)) (List.mem_of_getElem? (i := 4) rfl)) dX4_gain_190 ?_
                  refine lv_icmp_eq (tgt := 201) hx hb dX4_gain_192 (by decide) (fun c_192 => ?_) (fun c_192 => ?_)
                  · refine lv_iconst (v := (-1)) hx hb dX4_gain_201 (by decide) ?_
                    refine lv_goto (tgt := 208) hx hb dX4_gain_202 (by decide) ?_
                    subst hQe
                    have hP9 := hP.sub (ws' := [(m0, .inr (4, [.ref m1, .ref m2, .int (nI bk), .ref m3, .ref m4, .ref m5, .ref m6, .int sd, .ref m7, .ref m8, .int cl, .int pc, .int op])), (m1, .inl (km1, 93, .inl gg_41)), (m2, .inl (km2, 93, .inl gg_9)), (m3, .inl (km3, 3720, .inl bc)), (m4, .inl (km4, 186, .inl im)), (m5, .inl (km5, 2, .inl isd)), (m6, .inl (km6, 2, .inl kp)), (m7, .inl (km7, 1525, .inl vl_36)), (m8, .inl (km8, 24, .inl pl))]) [0, 1, 2, 3, 4, 5, 6, 7, 8] rfl
                    have hD9 := hD.sub (ws' := [(m0, .inr (4, [.ref m1, .ref m2, .int (nI bk), .ref m3, .ref m4, .ref m5, .ref m6, .int sd, .ref m7, .ref m8, .int cl, .int pc, .int op])), (m1, .inl (km1, 93, .inl gg_41)), (m2, .inl (km2, 93, .inl gg_9)), (m3, .inl (km3, 3720, .inl bc)), (m4, .inl (km4, 186, .inl im)), (m5, .inl (km5, 2, .inl isd)), (m6, .inl (km6, 2, .inl kp)), (m7, .inl (km7, 1525, .inl vl_36)), (m8, .inl (km8, 24, .inl pl))]) [0, 1, 2, 3, 4, 5, 6, 7, 8] (by decide) rfl
                    have hK9 := hK.sub (tys' := [(km1, .int), (km2, .int), (km3, .int), (km4, .int), (km5, .int), (km6, .boolean), (km7, .int), (km8, .int)]) [0, 1, 2, 3, 4, 5, 6, 7] rfl
                    subst hAe
                    exact W.iret (v := ((-1))) hx hb hr (fun t ht hW => ⟨⟨_, _, rfl, rfl, bk, sd, cl, pc, op, gg_41, gg_9, bc, im, isd, vl_36, pl, (by first | assumption | omega), (by first | assumption | omega), (by first | assumption | omega), (by first | assumption | omega), (by first | assumption | omega), by rw [ht]; exact hP9, va_K.moved hW.alike hK9, hD9⟩, hS.F ht⟩) hS.2.2 dX4_gain_208
                  · refine lv_iload_n hx hb dX4_gain_195 rfl (lv_at hl 0 rfl) ?_
                    refine lv_ldc (own := RX4) (v := (-500000000)) hx hb hown (hts (.constant RX4 67 (-500000000)) (List.mem_of_getElem? (i := 4) rfl)) dX4_gain_196 ?_
                    refine lv_icmp_ne (tgt := 205) hx hb dX4_gain_198 (by decide) (fun c_198 => ?_) (fun c_198 => ?_)
                    · refine lv_iload_n hx hb dX4_gain_205 rfl (lv_at hl 0 rfl) ?_
                      refine lv_iload_n hx hb dX4_gain_206 rfl (lv_at hl 3 rfl) ?_
                      refine lv_isub hx hb dX4_gain_207 ?_
                      refine tp_any (fun y_43 => ?_)
                      subst hQe
                      have hP9 := hP.sub (ws' := [(m0, .inr (4, [.ref m1, .ref m2, .int (nI bk), .ref m3, .ref m4, .ref m5, .ref m6, .int sd, .ref m7, .ref m8, .int cl, .int pc, .int op])), (m1, .inl (km1, 93, .inl gg_41)), (m2, .inl (km2, 93, .inl gg_9)), (m3, .inl (km3, 3720, .inl bc)), (m4, .inl (km4, 186, .inl im)), (m5, .inl (km5, 2, .inl isd)), (m6, .inl (km6, 2, .inl kp)), (m7, .inl (km7, 1525, .inl vl_36)), (m8, .inl (km8, 24, .inl pl))]) [0, 1, 2, 3, 4, 5, 6, 7, 8] rfl
                      have hD9 := hD.sub (ws' := [(m0, .inr (4, [.ref m1, .ref m2, .int (nI bk), .ref m3, .ref m4, .ref m5, .ref m6, .int sd, .ref m7, .ref m8, .int cl, .int pc, .int op])), (m1, .inl (km1, 93, .inl gg_41)), (m2, .inl (km2, 93, .inl gg_9)), (m3, .inl (km3, 3720, .inl bc)), (m4, .inl (km4, 186, .inl im)), (m5, .inl (km5, 2, .inl isd)), (m6, .inl (km6, 2, .inl kp)), (m7, .inl (km7, 1525, .inl vl_36)), (m8, .inl (km8, 24, .inl pl))]) [0, 1, 2, 3, 4, 5, 6, 7, 8] (by decide) rfl
                      have hK9 := hK.sub (tys' := [(km1, .int), (km2, .int), (km3, .int), (km4, .int), (km5, .int), (km6, .boolean), (km7, .int), (km8, .int)]) [0, 1, 2, 3, 4, 5, 6, 7] rfl
                      subst hAe
                      exact W.iret (v := y_43) hx hb hr (fun t ht hW => ⟨⟨_, _, rfl, rfl, bk, sd, cl, pc, op, gg_41, gg_9, bc, im, isd, vl_36, pl, (by first | assumption | omega), (by first | assumption | omega), (by first | assumption | omega), (by first | assumption | omega), (by first | assumption | omega), by rw [ht]; exact hP9, va_K.moved hW.alike hK9, hD9⟩, hS.F ht⟩) hS.2.2 dX4_gain_208
                    · refine lv_iconst (v := (-1)) hx hb dX4_gain_201 (by decide) ?_
                      refine lv_goto (tgt := 208) hx hb dX4_gain_202 (by decide) ?_
                      subst hQe
                      have hP9 := hP.sub (ws' := [(m0, .inr (4, [.ref m1, .ref m2, .int (nI bk), .ref m3, .ref m4, .ref m5, .ref m6, .int sd, .ref m7, .ref m8, .int cl, .int pc, .int op])), (m1, .inl (km1, 93, .inl gg_41)), (m2, .inl (km2, 93, .inl gg_9)), (m3, .inl (km3, 3720, .inl bc)), (m4, .inl (km4, 186, .inl im)), (m5, .inl (km5, 2, .inl isd)), (m6, .inl (km6, 2, .inl kp)), (m7, .inl (km7, 1525, .inl vl_36)), (m8, .inl (km8, 24, .inl pl))]) [0, 1, 2, 3, 4, 5, 6, 7, 8] rfl
                      have hD9 := hD.sub (ws' := [(m0, .inr (4, [.ref m1, .ref m2, .int (nI bk), .ref m3, .ref m4, .ref m5, .ref m6, .int sd, .ref m7, .ref m8, .int cl, .int pc, .int op])), (m1, .inl (km1, 93, .inl gg_41)), (m2, .inl (km2, 93, .inl gg_9)), (m3, .inl (km3, 3720, .inl bc)), (m4, .inl (km4, 186, .inl im)), (m5, .inl (km5, 2, .inl isd)), (m6, .inl (km6, 2, .inl kp)), (m7, .inl (km7, 1525, .inl vl_36)), (m8, .inl (km8, 24, .inl pl))]) [0, 1, 2, 3, 4, 5, 6, 7, 8] (by decide) rfl
                      have hK9 := hK.sub (tys' := [(km1, .int), (km2, .int), (km3, .int), (km4, .int), (km5, .int), (km6, .boolean), (km7, .int), (km8, .int)]) [0, 1, 2, 3, 4, 5, 6, 7] rfl
                      subst hAe
                      exact W.iret (v := ((-1))) hx hb hr (fun t ht hW => ⟨⟨_, _, rfl, rfl, bk, sd, cl, pc, op, gg_41, gg_9, bc, im, isd, vl_36, pl, (by first | assumption | omega), (by first | assumption | omega), (by first | assumption | omega), (by first | assumption | omega), (by first | assumption | omega), by rw [ht]; exact hP9, va_K.moved hW.alike hK9, hD9⟩, hS.F ht⟩) hS.2.2 dX4_gain_208
                refine lv_icmp_ne (tgt := 166) hx hb dX4_gain_150 (by decide) (fun c_150 => ?_) (fun c_150 => ?_)
                · have c_150 := (not_congr (nI_eq (by omega : j_2 < 2 ^ 31) (by omega : 3 < 2 ^ 31))).mp c_150
                  refine lv_iconst (v := nI 0) hx hb dX4_gain_166 (by decide) ?_
                  exact J167 (nI 0) _ _ _  hP hD hS (lv_sub hl [0, 1, 2] rfl)
                · have c_150 := (nI_eq (by omega : j_2 < 2 ^ 31) (by omega : 3 < 2 ^ 31)).mp c_150
                  refine lv_aload_n hx hb dX4_gain_153 rfl (lv_at hl 0 rfl) ?_
                  refine va_get (D := (dC, dI)) (ci := 4) (v := .ref m1) (C := RX4) (T := TX4) (N := 13) hx hb hts inX4 hown hK hP 0 rfl rfl 0 (by decide) (hts (.fieldLink RX4 7 "StoreSlopesModel" "now" "[I") (List.mem_of_getElem? (i := 2) rfl)) (fun _ h9 => h9) rfl dX4_gain_154 ?_
                  refine lv_iconst (v := nI 4) hx hb dX4_gain_157 (by decide) ?_
                  refine va_iald hx hb hK hP 1 0 rfl rfl (vp_in_nI (show 4 < 93 by omega) (by omega)) dX4_gain_158 ?_
                  refine tp_any (fun y_44 => ?_)
                  refine lv_if_le (tgt := 166) hx hb dX4_gain_159 (by decide) (fun c_159 => ?_) (fun c_159 => ?_)
                  · refine lv_iconst (v := nI 0) hx hb dX4_gain_166 (by decide) ?_
                    exact J167 (nI 0) _ _ _  hP hD hS (lv_sub hl [0, 1, 2] rfl)
                  · refine lv_iconst (v := nI 1) hx hb dX4_gain_162 (by decide) ?_
                    refine lv_goto (tgt := 167) hx hb dX4_gain_163 (by decide) ?_
                    exact J167 (nI 1) _ _ _  hP hD hS (lv_sub hl [0, 1, 2] rfl)
              refine lv_icmp_ne (tgt := 138) hx hb dX4_gain_120 (by decide) (fun c_120 => ?_) (fun c_120 => ?_)
              · have c_120 := (not_congr (nI_eq (by omega : j_2 < 2 ^ 31) (by omega : 2 < 2 ^ 31))).mp c_120
                refine lv_iconst (v := nI 0) hx hb dX4_gain_138 (by decide) ?_
                exact J139 0 _ _ _ (by first | assumption | omega) hP hD hS (lv_sub hl [0, 1, 2] rfl)
              · have c_120 := (nI_eq (by omega : j_2 < 2 ^ 31) (by omega : 2 < 2 ^ 31)).mp c_120
                refine lv_aload_n hx hb dX4_gain_123 rfl (lv_at hl 0 rfl) ?_
                refine va_get (D := (dC, dI)) (ci := 4) (v := .ref m1) (C := RX4) (T := TX4) (N := 13) hx hb hts inX4 hown hK hP 0 rfl rfl 0 (by decide) (hts (.fieldLink RX4 7 "StoreSlopesModel" "now" "[I") (List.mem_of_getElem? (i := 2) rfl)) (fun _ h9 => h9) rfl dX4_gain_124 ?_
                refine lv_iconst (v := nI 3) hx hb dX4_gain_127 (by decide) ?_
                refine va_iald hx hb hK hP 1 0 rfl rfl (vp_in_nI (show 3 < 93 by omega) (by omega)) dX4_gain_128 ?_
                refine tp_as (cl_as (by omega) ej_30) ?_
                refine lv_bipush (v := nI 9) hx hb dX4_gain_129 (by decide) ?_
                refine lv_icmp_ge (tgt := 138) hx hb dX4_gain_131 (by decide) (fun c_131 => ?_) (fun c_131 => ?_)
                · have c_131 := (nI_leI (by omega : 9 < 2 ^ 31) (by omega : j_30 < 2 ^ 31)).mp c_131
                  refine lv_iconst (v := nI 0) hx hb dX4_gain_138 (by decide) ?_
                  exact J139 0 _ _ _ (by first | assumption | omega) hP hD hS (lv_sub hl [0, 1, 2] rfl)
                · have c_131 := (not_congr (nI_leI (by omega : 9 < 2 ^ 31) (by omega : j_30 < 2 ^ 31))).mp c_131
                  refine lv_iconst (v := nI 1) hx hb dX4_gain_134 (by decide) ?_
                  refine lv_goto (tgt := 139) hx hb dX4_gain_135 (by decide) ?_
                  exact J139 1 _ _ _ (by first | assumption | omega) hP hD hS (lv_sub hl [0, 1, 2] rfl)
            refine lv_icmp_ne (tgt := 108) hx hb dX4_gain_90 (by decide) (fun c_90 => ?_) (fun c_90 => ?_)
            · have c_90 := (not_congr (nI_eq (by omega : j_2 < 2 ^ 31) (by omega : 1 < 2 ^ 31))).mp c_90
              refine lv_iconst (v := nI 0) hx hb dX4_gain_108 (by decide) ?_
              exact J109 0 _ _ _ (by first | assumption | omega) hP hD hS (lv_sub hl [0, 1, 2] rfl)
            · have c_90 := (nI_eq (by omega : j_2 < 2 ^ 31) (by omega : 1 < 2 ^ 31)).mp c_90
              refine lv_aload_n hx hb dX4_gain_93 rfl (lv_at hl 0 rfl) ?_
              refine va_get (D := (dC, dI)) (ci := 4) (v := .ref m1) (C := RX4) (T := TX4) (N := 13) hx hb hts inX4 hown hK hP 0 rfl rfl 0 (by decide) (hts (.fieldLink RX4 7 "StoreSlopesModel" "now" "[I") (List.mem_of_getElem? (i := 2) rfl)) (fun _ h9 => h9) rfl dX4_gain_94 ?_
              refine lv_iconst (v := nI 2) hx hb dX4_gain_97 (by decide) ?_
              refine va_iald hx hb hK hP 1 0 rfl rfl (vp_in_nI (show 2 < 93 by omega) (by omega)) dX4_gain_98 ?_
              refine tp_as (cl_as (by omega) ej_28) ?_
              refine lv_bipush (v := nI 9) hx hb dX4_gain_99 (by decide) ?_
              refine lv_icmp_ge (tgt := 108) hx hb dX4_gain_101 (by decide) (fun c_101 => ?_) (fun c_101 => ?_)
              · have c_101 := (nI_leI (by omega : 9 < 2 ^ 31) (by omega : j_28 < 2 ^ 31)).mp c_101
                refine lv_iconst (v := nI 0) hx hb dX4_gain_108 (by decide) ?_
                exact J109 0 _ _ _ (by first | assumption | omega) hP hD hS (lv_sub hl [0, 1, 2] rfl)
              · have c_101 := (not_congr (nI_leI (by omega : 9 < 2 ^ 31) (by omega : j_28 < 2 ^ 31))).mp c_101
                refine lv_iconst (v := nI 1) hx hb dX4_gain_104 (by decide) ?_
                refine lv_goto (tgt := 109) hx hb dX4_gain_105 (by decide) ?_
                exact J109 1 _ _ _ (by first | assumption | omega) hP hD hS (lv_sub hl [0, 1, 2] rfl)
          · have c_41 := (z_eq (by omega : j_2 < 2 ^ 31)).mp c_41
            refine lv_aload_n hx hb dX4_gain_44 rfl (lv_at hl 0 rfl) ?_
            refine va_get (D := (dC, dI)) (ci := 4) (v := .ref m1) (C := RX4) (T := TX4) (N := 13) hx hb hts inX4 hown hK hP 0 rfl rfl 0 (by decide) (hts (.fieldLink RX4 7 "StoreSlopesModel" "now" "[I") (List.mem_of_getElem? (i := 2) rfl)) (fun _ h9 => h9) rfl dX4_gain_45 ?_
            refine lv_bipush (v := nI 68) hx hb dX4_gain_48 (by decide) ?_
            refine lv_iload_n hx hb dX4_gain_50 rfl (lv_at hl 3 rfl) ?_
            refine lv_iadd hx hb dX4_gain_51 ?_
            refine tp_as (nI_add 68 i) ?_
            refine lv_dup2_11 hx hb dX4_gain_52 rfl rfl ?_
            obtain ⟨j_45, hj_45, ej_45⟩ := (show okN nwv by assumption).2.2.2.2.2 i (by omega)
            refine va_iald hx hb hK hP 1 0 rfl rfl (vp_in_nI (show 68 + i < 93 by omega) (by omega)) dX4_gain_53 ?_
            refine tp_as (cl_as (by omega) ej_45) ?_
            refine lv_aload_n hx hb dX4_gain_54 rfl (lv_at hl 0 rfl) ?_
            refine va_get (D := (dC, dI)) (ci := 4) (v := .ref m1) (C := RX4) (T := TX4) (N := 13) hx hb hts inX4 hown hK hP 0 rfl rfl 0 (by decide) (hts (.fieldLink RX4 7 "StoreSlopesModel" "now" "[I") (List.mem_of_getElem? (i := 2) rfl)) (fun _ h9 => h9) rfl dX4_gain_55 ?_
            refine lv_bipush (v := nI 68) hx hb dX4_gain_58 (by decide) ?_
            refine lv_iload_n hx hb dX4_gain_60 rfl (lv_at hl 3 rfl) ?_
            refine lv_iadd hx hb dX4_gain_61 ?_
            refine tp_as (nI_add 68 i) ?_
            refine va_iald hx hb hK hP 1 0 rfl rfl (vp_in_nI (show 68 + i < 93 by omega) (by omega)) dX4_gain_62 ?_
            refine tp_as (cl_as (by omega) ej_45) ?_
            refine lv_bipush (v := nI 60) hx hb dX4_gain_63 (by decide) ?_
            have J73 : ∀ (ee73 : Nat) (H : Heap) (locs : List Loc) (ls : Array Slot), j_45 + ee73 ≤ 60 → va_P (dC, dI) vwCl [(m0, .inr (4, [.ref m1, .ref m2, .int (nI bk), .ref m3, .ref m4, .ref m5, .ref m6, .int sd, .ref m7, .ref m8, .int cl, .int pc, .int op])), (m1, .inl (km1, 93, .inl nwv)), (m2, .inl (km2, 93, .inl gg_9)), (m3, .inl (km3, 3720, .inl bc)), (m4, .inl (km4, 186, .inl im)), (m5, .inl (km5, 2, .inl isd)), (m6, .inl (km6, 2, .inl kp)), (m7, .inl (km7, 1525, .inl vl_4)), (m8, .inl (km8, 24, .inl pl))] H → va_D A [(m0, .inr (4, [.ref m1, .ref m2, .int (nI bk), .ref m3, .ref m4, .ref m5, .ref m6, .int sd, .ref m7, .ref m8, .int cl, .int pc, .int op])), (m1, .inl (km1, 93, .inl nwv)), (m2, .inl (km2, 93, .inl gg_9)), (m3, .inl (km3, 3720, .inl bc)), (m4, .inl (km4, 186, .inl im)), (m5, .inl (km5, 2, .inl isd)), (m6, .inl (km6, 2, .inl kp)), (m7, .inl (km7, 1525, .inl vl_4)), (m8, .inl (km8, 24, .inl pl))] → va_S A s.heap H locs → lv_has ls 4 [(0, .ref m0), (1, .int (nI j_2)), (2, .int r_3), (3, .int (nI i))] → W p l e (headSpec wsX4_gain { frames := 7, cells := 0, slots := 0, locals := 162 }).room s m args below meth c H locs 0 0 Q (F0 m 73 ls [.int (nI ee73), .int (nI j_45), .int (nI (68 + i)), .ref m1]) := by
              intro ee73 H locs ls hJ73_0 hP hD hS hl
              refine lv_iadd hx hb dX4_gain_73 ?_
              refine tp_as (nI_add j_45 ee73) ?_
              refine va_iast hx hb hK hP hD hS 1 0 rfl rfl (vp_in_nI (show 68 + i < 93 by omega) (by omega)) dX4_gain_74 (fun H locs hP hD hS => ?_)
              have hP : va_P (dC, dI) vwCl [(m0, .inr (4, [.ref m1, .ref m2, .int (nI bk), .ref m3, .ref m4, .ref m5, .ref m6, .int sd, .ref m7, .ref m8, .int cl, .int pc, .int op])), (m1, .inl (km1, 93, .inl (upd nwv (nI (68 + i)).toNatClampNeg (nI (j_45 + ee73))))), (m2, .inl (km2, 93, .inl gg_9)), (m3, .inl (km3, 3720, .inl bc)), (m4, .inl (km4, 186, .inl im)), (m5, .inl (km5, 2, .inl isd)), (m6, .inl (km6, 2, .inl kp)), (m7, .inl (km7, 1525, .inl vl_4)), (m8, .inl (km8, 24, .inl pl))] H := hP
              have hD : va_D A [(m0, .inr (4, [.ref m1, .ref m2, .int (nI bk), .ref m3, .ref m4, .ref m5, .ref m6, .int sd, .ref m7, .ref m8, .int cl, .int pc, .int op])), (m1, .inl (km1, 93, .inl (upd nwv (nI (68 + i)).toNatClampNeg (nI (j_45 + ee73))))), (m2, .inl (km2, 93, .inl gg_9)), (m3, .inl (km3, 3720, .inl bc)), (m4, .inl (km4, 186, .inl im)), (m5, .inl (km5, 2, .inl isd)), (m6, .inl (km6, 2, .inl kp)), (m7, .inl (km7, 1525, .inl vl_4)), (m8, .inl (km8, 24, .inl pl))] := hD
              generalize ef_46 : upd nwv (nI (68 + i)).toNatClampNeg (nI (j_45 + ee73)) = f_46 at hP hD
              have bf_46 : okN f_46 := okN_upd (by assumption) ef_46 (by omega) (by refine ⟨fun q => ?_, fun q => ?_, fun q => ?_, fun q => ?_, fun q => ?_, fun q q2 => ?_⟩ <;> first | (exfalso; omega) | exact ⟨_, by omega, rfl⟩)
              clear ef_46
              refine lv_iinc (v := nI (i + 1)) (lv' := [(3, .int (nI (i + 1))), (0, .ref m0), (1, .int (nI j_2)), (2, .int r_3)]) hx hb dX4_gain_75 hl (k := 3) rfl (inc_n i 1) (by decide) rfl (fun ls hl => ?_)
              refine lv_goto (tgt := 34) hx hb dX4_gain_78 (by decide) ?_
              exact ih34 (i + 1) f_46 _ _ _ (by first | assumption | omega) (by first | assumption | omega) (by omega) hP hD hS (lv_sub hl [1, 2, 3, 0] rfl)
            refine lv_icmp_ge (tgt := 72) hx hb dX4_gain_65 (by decide) (fun c_65 => ?_) (fun c_65 => ?_)
            · have c_65 := (nI_leI (by omega : 60 < 2 ^ 31) (by omega : j_45 < 2 ^ 31)).mp c_65
              refine lv_iconst (v := nI 0) hx hb dX4_gain_72 (by decide) ?_
              exact J73 0 _ _ _ (by first | assumption | omega) hP hD hS (lv_sub hl [0, 1, 2, 3] rfl)
            · have c_65 := (not_congr (nI_leI (by omega : 60 < 2 ^ 31) (by omega : j_45 < 2 ^ 31))).mp c_65
              refine lv_iconst (v := nI 1) hx hb dX4_gain_68 (by decide) ?_
              refine lv_goto (tgt := 73) hx hb dX4_gain_69 (by decide) ?_
              exact J73 1 _ _ _ (by first | assumption | omega) hP hD hS (lv_sub hl [0, 1, 2, 3] rfl)
    exact L34 (24 - 0 + 1) 0 nw _ _ _ (by first | assumption | omega) (by first | assumption | omega) (Nat.lt_succ_self _) hP hD hS (lv_sub hl [2, 3, 1, 0] rfl)
  · have nc_6 := b_0 wr_1 c_6
    refine lv_ldc (own := RX4) (v := (-1000000002)) hx hb hown (hts (.constant RX4 110 (-1000000002)) (List.mem_of_getElem? (i := 1) rfl)) dX4_gain_9 ?_
    subst hQe
    have hP9 := hP.sub (ws' := [(m0, .inr (4, [.ref m1, .ref m2, .int (nI bk), .ref m3, .ref m4, .ref m5, .ref m6, .int sd, .ref m7, .ref m8, .int cl, .int pc, .int op])), (m1, .inl (km1, 93, .inl nw)), (m2, .inl (km2, 93, .inl ws)), (m3, .inl (km3, 3720, .inl bc)), (m4, .inl (km4, 186, .inl im)), (m5, .inl (km5, 2, .inl isd)), (m6, .inl (km6, 2, .inl kp)), (m7, .inl (km7, 1525, .inl vl)), (m8, .inl (km8, 24, .inl pl))]) [0, 1, 2, 3, 4, 5, 6, 7, 8] rfl
    have hD9 := hD.sub (ws' := [(m0, .inr (4, [.ref m1, .ref m2, .int (nI bk), .ref m3, .ref m4, .ref m5, .ref m6, .int sd, .ref m7, .ref m8, .int cl, .int pc, .int op])), (m1, .inl (km1, 93, .inl nw)), (m2, .inl (km2, 93, .inl ws)), (m3, .inl (km3, 3720, .inl bc)), (m4, .inl (km4, 186, .inl im)), (m5, .inl (km5, 2, .inl isd)), (m6, .inl (km6, 2, .inl kp)), (m7, .inl (km7, 1525, .inl vl)), (m8, .inl (km8, 24, .inl pl))]) [0, 1, 2, 3, 4, 5, 6, 7, 8] (by decide) rfl
    have hK9 := hK.sub (tys' := [(km1, .int), (km2, .int), (km3, .int), (km4, .int), (km5, .int), (km6, .boolean), (km7, .int), (km8, .int)]) [0, 1, 2, 3, 4, 5, 6, 7] rfl
    subst hAe
    exact W.iret (v := ((-1000000002))) hx hb hr (fun t ht hW => ⟨⟨_, _, rfl, rfl, bk, sd, cl, pc, op, nw, ws, bc, im, isd, vl, pl, (by first | assumption | omega), (by first | assumption | omega), (by first | assumption | omega), (by first | assumption | omega), (by first | assumption | omega), by rw [ht]; exact hP9, va_K.moved hW.alike hK9, hD9⟩, hS.F ht⟩) hS.2.2 dX4_gain_11
set_option maxHeartbeats 4000000 in
set_option maxRecDepth 100000 in
theorem c_X4_without (l : Launch) (dC : Nat → ClassId) (dI : Nat → Nat → Nat) (m0 m1 m2 m3 m4 m5 m6 m7 m8 : Nat) (km1 km2 km3 km4 km5 km6 km7 km8 : ClassId) (sz : Nat) (bk : Nat) (sd : Int32) (cl : Int32) (pc : Int32) (op : Int32) (nw : Nat → Int32) (ws : Nat → Int32) (bc : Nat → Int32) (im : Nat → Int32) (isd : Nat → Int32) (kp : Nat → Int32) (vl : Nat → Int32) (pl : Nat → Int32) (a : Int32) (i0 : bk ≤ 40) (i1 : okN nw) (i2 : okB 40 bc) (i3 : okB 2 im) (i4 : bdA 60 24 pl) : Met l yX4_without wsX4_without ({ frames := 7, cells := 0, slots := 0, locals := 162 }) (va_Pc [.ref m0, .int a] (fun U => U.heap.size = sz ∧ va_P (dC, dI) vwCl [(m0, .inr (4, [.ref m1, .ref m2, .int (nI bk), .ref m3, .ref m4, .ref m5, .ref m6, .int sd, .ref m7, .ref m8, .int cl, .int pc, .int op])), (m1, .inl (km1, 93, .inl nw)), (m2, .inl (km2, 93, .inl ws)), (m3, .inl (km3, 3720, .inl bc)), (m4, .inl (km4, 186, .inl im)), (m5, .inl (km5, 2, .inl isd)), (m6, .inl (km6, 2, .inl kp)), (m7, .inl (km7, 1525, .inl vl)), (m8, .inl (km8, 24, .inl pl))] U.heap ∧ va_K (dC, dI) vwCl [(km1, .int), (km2, .int), (km3, .int), (km4, .int), (km5, .int), (km6, .boolean), (km7, .int), (km8, .int)] U ∧ va_D (fun _ => True) [(m0, .inr (4, [.ref m1, .ref m2, .int (nI bk), .ref m3, .ref m4, .ref m5, .ref m6, .int sd, .ref m7, .ref m8, .int cl, .int pc, .int op])), (m1, .inl (km1, 93, .inl nw)), (m2, .inl (km2, 93, .inl ws)), (m3, .inl (km3, 3720, .inl bc)), (m4, .inl (km4, 186, .inl im)), (m5, .inl (km5, 2, .inl isd)), (m6, .inl (km6, 2, .inl kp)), (m7, .inl (km7, 1525, .inl vl)), (m8, .inl (km8, 24, .inl pl))])) (va_Qi (fun (r u : Int32) => u = r) (fun r t => ∃ (bk' : Nat) (sd' : Int32) (cl' : Int32) (pc' : Int32) (op' : Int32) (nw' : Nat → Int32) (ws' : Nat → Int32) (bc' : Nat → Int32) (im' : Nat → Int32) (isd' : Nat → Int32) (vl' : Nat → Int32) (pl' : Nat → Int32), bk' ≤ 40 ∧ okN nw' ∧ okB 40 bc' ∧ okB 2 im' ∧ bdA 60 24 pl' ∧ va_P (dC, dI) vwCl [(m0, .inr (4, [.ref m1, .ref m2, .int (nI bk'), .ref m3, .ref m4, .ref m5, .ref m6, .int sd', .ref m7, .ref m8, .int cl', .int pc', .int op'])), (m1, .inl (km1, 93, .inl nw')), (m2, .inl (km2, 93, .inl ws')), (m3, .inl (km3, 3720, .inl bc')), (m4, .inl (km4, 186, .inl im')), (m5, .inl (km5, 2, .inl isd')), (m6, .inl (km6, 2, .inl kp)), (m7, .inl (km7, 1525, .inl vl')), (m8, .inl (km8, 24, .inl pl'))] t.heap ∧ va_K (dC, dI) vwCl [(km1, .int), (km2, .int), (km3, .int), (km4, .int), (km5, .int), (km6, .boolean), (km7, .int), (km8, .int)] t ∧ va_D (va_A [(m0, .inr (4, [.ref m1, .ref m2, .int (nI bk), .ref m3, .ref m4, .ref m5, .ref m6, .int sd, .ref m7, .ref m8, .int cl, .int pc, .int op])), (m1, .inl (km1, 93, .inl nw)), (m2, .inl (km2, 93, .inl ws)), (m3, .inl (km3, 3720, .inl bc)), (m4, .inl (km4, 186, .inl im)), (m5, .inl (km5, 2, .inl isd)), (m6, .inl (km6, 2, .inl kp)), (m7, .inl (km7, 1525, .inl vl)), (m8, .inl (km8, 24, .inl pl))] sz) [(m0, .inr (4, [.ref m1, .ref m2, .int (nI bk'), .ref m3, .ref m4, .ref m5, .ref m6, .int sd', .ref m7, .ref m8, .int cl', .int pc', .int op'])), (m1, .inl (km1, 93, .inl nw')), (m2, .inl (km2, 93, .inl ws')), (m3, .inl (km3, 3720, .inl bc')), (m4, .inl (km4, 186, .inl im')), (m5, .inl (km5, 2, .inl isd')), (m6, .inl (km6, 2, .inl kp)), (m7, .inl (km7, 1525, .inl vl')), (m8, .inl (km8, 24, .inl pl'))]) (va_A [(m0, .inr (4, [.ref m1, .ref m2, .int (nI bk), .ref m3, .ref m4, .ref m5, .ref m6, .int sd, .ref m7, .ref m8, .int cl, .int pc, .int op])), (m1, .inl (km1, 93, .inl nw)), (m2, .inl (km2, 93, .inl ws)), (m3, .inl (km3, 3720, .inl bc)), (m4, .inl (km4, 186, .inl im)), (m5, .inl (km5, 2, .inl isd)), (m6, .inl (km6, 2, .inl kp)), (m7, .inl (km7, 1525, .inl vl)), (m8, .inl (km8, 24, .inl pl))] sz)) 0 0 (va_A [(m0, .inr (4, [.ref m1, .ref m2, .int (nI bk), .ref m3, .ref m4, .ref m5, .ref m6, .int sd, .ref m7, .ref m8, .int cl, .int pc, .int op])), (m1, .inl (km1, 93, .inl nw)), (m2, .inl (km2, 93, .inl ws)), (m3, .inl (km3, 3720, .inl bc)), (m4, .inl (km4, 186, .inl im)), (m5, .inl (km5, 2, .inl isd)), (m6, .inl (km6, 2, .inl kp)), (m7, .inl (km7, 1525, .inl vl)), (m8, .inl (km8, 24, .inl pl))] sz) := by
  refine Met.ofW (cc := cX4_without) (maxL := 3) (ret := (some .int)) (by decide) rfl ?_
  intro p e s m args below meth c s₁ B hml hv
  obtain ⟨rfl, hsz, hP, hK, hD0⟩ := hv
  have hx := B.exec
  have hb := B.bytes
  have hr := B.returns
  have hts := atoms_spec (ws := wsX4_without) B.pre
  have hown : s.vm.findClass RX4 = some m.cls := findClass_of_methodNamed B.named
  have hlocks := B.notSynchronized
  have inX4 : ∀ w ∈ wsX40, w ∈ wsX4_without := fun _ h => List.mem_cons_of_mem _ (List.mem_append_right _ h)
  subst hsz
  have hD := hD0.self (sz := s.heap.size)
  generalize hAe : va_A [(m0, .inr (4, [.ref m1, .ref m2, .int (nI bk), .ref m3, .ref m4, .ref m5, .ref m6, .int sd, .ref m7, .ref m8, .int cl, .int pc, .int op])), (m1, .inl (km1, 93, .inl nw)), (m2, .inl (km2, 93, .inl ws)), (m3, .inl (km3, 3720, .inl bc)), (m4, .inl (km4, 186, .inl im)), (m5, .inl (km5, 2, .inl isd)), (m6, .inl (km6, 2, .inl kp)), (m7, .inl (km7, 1525, .inl vl)), (m8, .inl (km8, 24, .inl pl))] s.heap.size = A at hD ⊢
  have hA : ∀ q : Nat, s.heap.size ≤ q → A q := fun q h => by rw [← hAe]; exact Or.inr h
  have hS : va_S A s.heap s.heap [] := va_S.rf
  have hl := lv_entry ([.ref m0, .int a]) (n := 3) (Nat.le_of_ble_eq_true rfl)
  rw [lg_entry_eq]
  generalize (lg_sl ([.ref m0, .int a]) ++ List.replicate (3 - (lg_sl ([.ref m0, .int a])).length) Slot.unset).toArray = ls at hl ⊢
  generalize hQe : MQ below _ _ s 0 0 _ = Q
  generalize ([.ref m0, .int a] : List Value).toArray = args at hts hQe ⊢
  have hl : lv_has ls 3 [(0, .ref m0), (1, .int a)] := hl
  refine lv_iload_n hx hb dX4_without_0 rfl (lv_at hl 1 rfl) ?_
  refine va_calli (va_runS (As := [.int a]) (rest := []) ⟨hx, hb, hml, hown, hts⟩ (c_X4_isHour l dC dI   a  ) (va_cwS 1 hts gX4_without_X4_isHour rfl rfl rfl (by decide +kernel) ⟨Nat.le_of_ble_eq_true rfl, Nat.le_of_ble_eq_true rfl⟩) ⟨fun a U g mk q => q, fun U hU hW => ⟨rfl, trivial⟩⟩ rfl rfl hl.1 rfl (lv_room (Nat.le_of_ble_eq_true rfl)) dX4_without_1 ⟨Nat.le_of_ble_eq_true rfl, Nat.le_of_ble_eq_true rfl⟩) hS (fun q _ h => h.elim) (fun q h => h.elim) (fun r_1 u9 t9 H1 locs ht hvm hw hB hz1 hk1 hS => ?_)
  refine W.widen (k := 0) (n := 0) (Nat.le_of_ble_eq_true rfl) (Nat.le_of_ble_eq_true rfl) ?_
  have hP := hP.kept (H1 := H1) (fun k q hk => hk1 q.1 (hP k q hk).lt (fun h => h))
  clear hz1 hk1 hB ht hvm t9
  generalize H1 = H at hP hS ⊢
  have hP : va_P (dC, dI) vwCl [(m0, .inr (4, [.ref m1, .ref m2, .int (nI bk), .ref m3, .ref m4, .ref m5, .ref m6, .int sd, .ref m7, .ref m8, .int cl, .int pc, .int op])), (m1, .inl (km1, 93, .inl nw)), (m2, .inl (km2, 93, .inl ws)), (m3, .inl (km3, 3720, .inl bc)), (m4, .inl (km4, 186, .inl im)), (m5, .inl (km5, 2, .inl isd)), (m6, .inl (km6, 2, .inl kp)), (m7, .inl (km7, 1525, .inl vl)), (m8, .inl (km8, 24, .inl pl))] H := hP
  have wr_1 := hw
  clear hw
  refine lv_if_ne (tgt := 10) hx hb dX4_without_4 (by decide) (fun c_4 => ?_) (fun c_4 => ?_)
  · obtain ⟨j_2, hj_2, rfl⟩ := b_1 wr_1 c_4
    refine lv_aload_n hx hb dX4_without_10 rfl (lv_at hl 0 rfl) ?_
    refine lv_iload_n hx hb dX4_without_11 rfl (lv_at hl 1 rfl) ?_
    refine va_put (D := (dC, dI)) (ci := 4) (v := .int (nI j_2)) (ty := .int) (C := RX4) (T := TX4) (N := 13) hx hb hts inX4 tyX4 tyX4_ok nmX4 hown hK hP hD hS 0 rfl rfl 10 (by decide) (hts (.fieldLink RX4 35 "StoreSlopesModel" "closed" "I") (List.mem_of_getElem? (i := 2) rfl)) (fun _ h9 => h9) rfl (by decide +kernel) rfl rfl (Nat.le_of_ble_eq_true rfl) dX4_without_12 (fun H locs hP hD hS => ?_)
    have hP : va_P (dC, dI) vwCl [(m0, .inr (4, [.ref m1, .ref m2, .int (nI bk), .ref m3, .ref m4, .ref m5, .ref m6, .int sd, .ref m7, .ref m8, .int (nI j_2), .int pc, .int op])), (m1, .inl (km1, 93, .inl nw)), (m2, .inl (km2, 93, .inl ws)), (m3, .inl (km3, 3720, .inl bc)), (m4, .inl (km4, 186, .inl im)), (m5, .inl (km5, 2, .inl isd)), (m6, .inl (km6, 2, .inl kp)), (m7, .inl (km7, 1525, .inl vl)), (m8, .inl (km8, 24, .inl pl))] H := hP
    have hD : va_D A [(m0, .inr (4, [.ref m1, .ref m2, .int (nI bk), .ref m3, .ref m4, .ref m5, .ref m6, .int sd, .ref m7, .ref m8, .int (nI j_2), .int pc, .int op])), (m1, .inl (km1, 93, .inl nw)), (m2, .inl (km2, 93, .inl ws)), (m3, .inl (km3, 3720, .inl bc)), (m4, .inl (km4, 186, .inl im)), (m5, .inl (km5, 2, .inl isd)), (m6, .inl (km6, 2, .inl kp)), (m7, .inl (km7, 1525, .inl vl)), (m8, .inl (km8, 24, .inl pl))] := hD
    refine lv_aload_n hx hb dX4_without_15 rfl (lv_at hl 0 rfl) ?_
    have hPc := hP.sub (ws' := [(m0, .inr (4, [.ref m1, .ref m2, .int (nI bk), .ref m3, .ref m4, .ref m5, .ref m6, .int sd, .ref m7, .ref m8, .int (nI j_2), .int pc, .int op])), (m1, .inl (km1, 93, .inl nw)), (m7, .inl (km7, 1525, .inl vl))]) [0, 1, 7] rfl
    have hKc := hK.sub (tys' := [(km1, .int), (km7, .int)]) [0, 6] rfl
    have hDc := hD.sub (ws' := [(m0, .inr (4, [.ref m1, .ref m2, .int (nI bk), .ref m3, .ref m4, .ref m5, .ref m6, .int sd, .ref m7, .ref m8, .int (nI j_2), .int pc, .int op])), (m1, .inl (km1, 93, .inl nw)), (m7, .inl (km7, 1525, .inl vl))]) [0, 1, 7] (by decide) rfl
    have hFc := va_free (wc := [(m0, .inr (4, [.ref m1, .ref m2, .int (nI bk), .ref m3, .ref m4, .ref m5, .ref m6, .int sd, .ref m7, .ref m8, .int (nI j_2), .int pc, .int op])), (m1, .inl (km1, 93, .inl nw)), (m7, .inl (km7, 1525, .inl vl))]) hD hS hA [0, 1, 7] rfl
    refine va_calli (va_runV (As := []) (rest := []) ⟨hx, hb, hml, hown, hts⟩ (c_X4_bestOf l dC dI m0 m1 m7 m2 m3 m4 m5 m6 m8 km1 km7 H.size bk sd (nI j_2) pc op nw vl  (by first | assumption | omega) (by first | assumption | omega) ) (cwV 0 hts gX4_without_X4_bestOf rfl rfl rfl (by decide +kernel) ⟨Nat.le_of_ble_eq_true rfl, Nat.le_of_ble_eq_true rfl⟩) ⟨fun a U g mk q => by obtain ⟨q0, q1, qP, qK, qD⟩ := q; exact ⟨q0, q1, qP, va_K.moved (u := U) (U := U.calling g mk a) (Vm.Alike.refl U.vm) qK, qD⟩, va_recv hKc hPc (ci := 4) (q0 := 0) rfl rfl, fun U hU hW => ⟨rfl, by rw [hU], by rw [hU]; exact hPc, va_K.moved hW.alike hKc, hDc.weaken (fun _ _ _ _ => trivial)⟩⟩ rfl rfl hl.1 rfl (lv_room (Nat.le_of_ble_eq_true rfl)) dX4_without_16 ⟨Nat.le_of_ble_eq_true rfl, Nat.le_of_ble_eq_true rfl⟩) hS (fun q _ h => hFc q h) hFc (fun r_3 u9 t9 H1 locs ht hvm hw hB hz1 hk1 hS => ?_)
    refine W.widen (k := 0) (n := 0) (Nat.le_of_ble_eq_true rfl) (Nat.le_of_ble_eq_true rfl) ?_
    obtain ⟨vl_4, h_5, h_6, hP1, hK1, hD1⟩ := hB
    rw [ht] at hP1
    have hw := hw.symm
    subst hw
    obtain ⟨hP, hD⟩ := va_join (wr := [(m2, .inl (km2, 93, .inl ws)), (m3, .inl (km3, 3720, .inl bc)), (m4, .inl (km4, 186, .inl im)), (m5, .inl (km5, 2, .inl isd)), (m6, .inl (km6, 2, .inl kp)), (m8, .inl (km8, 24, .inl pl))]) (w1 := [(m0, .inr (4, [.ref m1, .ref m2, .int (nI bk), .ref m3, .ref m4, .ref m5, .ref m6, .int sd, .ref m7, .ref m8, .int (nI j_2), .int pc, .int op])), (m1, .inl (km1, 93, .inl nw)), (m7, .inl (km7, 1525, .inl vl_4))]) hP hD [0, 1, 7] [2, 3, 4, 5, 6, 8] rfl rfl (by decide) (by decide) hk1 hFc hP1 hD1
    clear hPc hDc hKc hFc hz1 hk1 ht hvm hP1 hK1 hD1 t9
    generalize H1 = H at hP hS ⊢
    have hP := hP.sub (ws' := [(m0, .inr (4, [.ref m1, .ref m2, .int (nI bk), .ref m3, .ref m4, .ref m5, .ref m6, .int sd, .ref m7, .ref m8, .int (nI j_2), .int pc, .int op])), (m1, .inl (km1, 93, .inl nw)), (m2, .inl (km2, 93, .inl ws)), (m3, .inl (km3, 3720, .inl bc)), (m4, .inl (km4, 186, .inl im)), (m5, .inl (km5, 2, .inl isd)), (m6, .inl (km6, 2, .inl kp)), (m7, .inl (km7, 1525, .inl vl_4)), (m8, .inl (km8, 24, .inl pl))]) [6, 7, 0, 1, 2, 3, 4, 8, 5] rfl
    have hD := hD.sub (ws' := [(m0, .inr (4, [.ref m1, .ref m2, .int (nI bk), .ref m3, .ref m4, .ref m5, .ref m6, .int sd, .ref m7, .ref m8, .int (nI j_2), .int pc, .int op])), (m1, .inl (km1, 93, .inl nw)), (m2, .inl (km2, 93, .inl ws)), (m3, .inl (km3, 3720, .inl bc)), (m4, .inl (km4, 186, .inl im)), (m5, .inl (km5, 2, .inl isd)), (m6, .inl (km6, 2, .inl kp)), (m7, .inl (km7, 1525, .inl vl_4)), (m8, .inl (km8, 24, .inl pl))]) [6, 7, 0, 1, 2, 3, 4, 8, 5] (by decide) rfl
    refine lv_istore_n (lv' := [(2, .int r_3), (0, .ref m0), (1, .int (nI j_2))]) hx hb dX4_without_19 rfl hl (by decide) rfl (fun ls hl => ?_)
    refine lv_aload_n hx hb dX4_without_20 rfl (lv_at hl 1 rfl) ?_
    refine lv_iconst (v := (-1)) hx hb dX4_without_21 (by decide) ?_
    refine va_put (D := (dC, dI)) (ci := 4) (v := .int ((-1))) (ty := .int) (C := RX4) (T := TX4) (N := 13) hx hb hts inX4 tyX4 tyX4_ok nmX4 hown hK hP hD hS 0 rfl rfl 10 (by decide) (hts (.fieldLink RX4 35 "StoreSlopesModel" "closed" "I") (List.mem_of_getElem? (i := 2) rfl)) (fun _ h9 => h9) rfl (by decide +kernel) rfl rfl (Nat.le_of_ble_eq_true rfl) dX4_without_22 (fun H locs hP hD hS => ?_)
    have hP : va_P (dC, dI) vwCl [(m0, .inr (4, [.ref m1, .ref m2, .int (nI bk), .ref m3, .ref m4, .ref m5, .ref m6, .int sd, .ref m7, .ref m8, .int ((-1)), .int pc, .int op])), (m1, .inl (km1, 93, .inl nw)), (m2, .inl (km2, 93, .inl ws)), (m3, .inl (km3, 3720, .inl bc)), (m4, .inl (km4, 186, .inl im)), (m5, .inl (km5, 2, .inl isd)), (m6, .inl (km6, 2, .inl kp)), (m7, .inl (km7, 1525, .inl vl_4)), (m8, .inl (km8, 24, .inl pl))] H := hP
    have hD : va_D A [(m0, .inr (4, [.ref m1, .ref m2, .int (nI bk), .ref m3, .ref m4, .ref m5, .ref m6, .int sd, .ref m7, .ref m8, .int ((-1)), .int pc, .int op])), (m1, .inl (km1, 93, .inl nw)), (m2, .inl (km2, 93, .inl ws)), (m3, .inl (km3, 3720, .inl bc)), (m4, .inl (km4, 186, .inl im)), (m5, .inl (km5, 2, .inl isd)), (m6, .inl (km6, 2, .inl kp)), (m7, .inl (km7, 1525, .inl vl_4)), (m8, .inl (km8, 24, .inl pl))] := hD
    refine lv_iload_n hx hb dX4_without_25 rfl (lv_at hl 0 rfl) ?_
    refine va_calli (va_runS (As := [.int r_3]) (rest := []) ⟨hx, hb, hml, hown, hts⟩ (c_X4_shown l dC dI   r_3  ) (va_cwS 1 hts gX4_without_X4_shown rfl rfl rfl (by decide +kernel) ⟨Nat.le_of_ble_eq_true rfl, Nat.le_of_ble_eq_true rfl⟩) ⟨fun a U g mk q => q, fun U hU hW => ⟨rfl, trivial⟩⟩ rfl rfl hl.1 rfl (lv_room (Nat.le_of_ble_eq_true rfl)) dX4_without_26 ⟨Nat.le_of_ble_eq_true rfl, Nat.le_of_ble_eq_true rfl⟩) hS (fun q _ h => h.elim) (fun q h => h.elim) (fun r_8 u9 t9 H1 locs ht hvm hw hB hz1 hk1 hS => ?_)
    refine W.widen (k := 0) (n := 0) (Nat.le_of_ble_eq_true rfl) (Nat.le_of_ble_eq_true rfl) ?_
    have hP := hP.kept (H1 := H1) (fun k q hk => hk1 q.1 (hP k q hk).lt (fun h => h))
    clear hz1 hk1 hB ht hvm t9
    generalize H1 = H at hP hS ⊢
    have hP : va_P (dC, dI) vwCl [(m0, .inr (4, [.ref m1, .ref m2, .int (nI bk), .ref m3, .ref m4, .ref m5, .ref m6, .int sd, .ref m7, .ref m8, .int ((-1)), .int pc, .int op])), (m1, .inl (km1, 93, .inl nw)), (m2, .inl (km2, 93, .inl ws)), (m3, .inl (km3, 3720, .inl bc)), (m4, .inl (km4, 186, .inl im)), (m5, .inl (km5, 2, .inl isd)), (m6, .inl (km6, 2, .inl kp)), (m7, .inl (km7, 1525, .inl vl_4)), (m8, .inl (km8, 24, .inl pl))] H := hP
    clear hw
    subst hQe
    have hP9 := hP.sub (ws' := [(m0, .inr (4, [.ref m1, .ref m2, .int (nI bk), .ref m3, .ref m4, .ref m5, .ref m6, .int sd, .ref m7, .ref m8, .int ((-1)), .int pc, .int op])), (m1, .inl (km1, 93, .inl nw)), (m2, .inl (km2, 93, .inl ws)), (m3, .inl (km3, 3720, .inl bc)), (m4, .inl (km4, 186, .inl im)), (m5, .inl (km5, 2, .inl isd)), (m6, .inl (km6, 2, .inl kp)), (m7, .inl (km7, 1525, .inl vl_4)), (m8, .inl (km8, 24, .inl pl))]) [0, 1, 2, 3, 4, 5, 6, 7, 8] rfl
    have hD9 := hD.sub (ws' := [(m0, .inr (4, [.ref m1, .ref m2, .int (nI bk), .ref m3, .ref m4, .ref m5, .ref m6, .int sd, .ref m7, .ref m8, .int ((-1)), .int pc, .int op])), (m1, .inl (km1, 93, .inl nw)), (m2, .inl (km2, 93, .inl ws)), (m3, .inl (km3, 3720, .inl bc)), (m4, .inl (km4, 186, .inl im)), (m5, .inl (km5, 2, .inl isd)), (m6, .inl (km6, 2, .inl kp)), (m7, .inl (km7, 1525, .inl vl_4)), (m8, .inl (km8, 24, .inl pl))]) [0, 1, 2, 3, 4, 5, 6, 7, 8] (by decide) rfl
    have hK9 := hK.sub (tys' := [(km1, .int), (km2, .int), (km3, .int), (km4, .int), (km5, .int), (km6, .boolean), (km7, .int), (km8, .int)]) [0, 1, 2, 3, 4, 5, 6, 7] rfl
    subst hAe
    exact W.iret (v := r_8) hx hb hr (fun t ht hW => ⟨⟨_, _, rfl, rfl, bk, sd, ((-1)), pc, op, nw, ws, bc, im, isd, vl_4, pl, (by first | assumption | omega), (by first | assumption | omega), (by first | assumption | omega), (by first | assumption | omega), (by first | assumption | omega), by rw [ht]; exact hP9, va_K.moved hW.alike hK9, hD9⟩, hS.F ht⟩) hS.2.2 dX4_without_29
  · have nc_4 := b_0 wr_1 c_4
    refine lv_ldc (own := RX4) (v := (-1000000001)) hx hb hown (hts (.constant RX4 109 (-1000000001)) (List.mem_of_getElem? (i := 1) rfl)) dX4_without_7 ?_
    subst hQe
    have hP9 := hP.sub (ws' := [(m0, .inr (4, [.ref m1, .ref m2, .int (nI bk), .ref m3, .ref m4, .ref m5, .ref m6, .int sd, .ref m7, .ref m8, .int cl, .int pc, .int op])), (m1, .inl (km1, 93, .inl nw)), (m2, .inl (km2, 93, .inl ws)), (m3, .inl (km3, 3720, .inl bc)), (m4, .inl (km4, 186, .inl im)), (m5, .inl (km5, 2, .inl isd)), (m6, .inl (km6, 2, .inl kp)), (m7, .inl (km7, 1525, .inl vl)), (m8, .inl (km8, 24, .inl pl))]) [0, 1, 2, 3, 4, 5, 6, 7, 8] rfl
    have hD9 := hD.sub (ws' := [(m0, .inr (4, [.ref m1, .ref m2, .int (nI bk), .ref m3, .ref m4, .ref m5, .ref m6, .int sd, .ref m7, .ref m8, .int cl, .int pc, .int op])), (m1, .inl (km1, 93, .inl nw)), (m2, .inl (km2, 93, .inl ws)), (m3, .inl (km3, 3720, .inl bc)), (m4, .inl (km4, 186, .inl im)), (m5, .inl (km5, 2, .inl isd)), (m6, .inl (km6, 2, .inl kp)), (m7, .inl (km7, 1525, .inl vl)), (m8, .inl (km8, 24, .inl pl))]) [0, 1, 2, 3, 4, 5, 6, 7, 8] (by decide) rfl
    have hK9 := hK.sub (tys' := [(km1, .int), (km2, .int), (km3, .int), (km4, .int), (km5, .int), (km6, .boolean), (km7, .int), (km8, .int)]) [0, 1, 2, 3, 4, 5, 6, 7] rfl
    subst hAe
    exact W.iret (v := ((-1000000001))) hx hb hr (fun t ht hW => ⟨⟨_, _, rfl, rfl, bk, sd, cl, pc, op, nw, ws, bc, im, isd, vl, pl, (by first | assumption | omega), (by first | assumption | omega), (by first | assumption | omega), (by first | assumption | omega), (by first | assumption | omega), by rw [ht]; exact hP9, va_K.moved hW.alike hK9, hD9⟩, hS.F ht⟩) hS.2.2 dX4_without_9
set_option maxHeartbeats 4000000 in
set_option maxRecDepth 100000 in
theorem c_X4_with (l : Launch) (dC : Nat → ClassId) (dI : Nat → Nat → Nat) (m0 m1 m2 m3 m4 m5 m6 m7 m8 : Nat) (km1 km2 km3 km4 km5 km6 km7 km8 : ClassId) (sz : Nat) (bk : Nat) (sd : Int32) (cl : Int32) (pc : Int32) (op : Int32) (nw : Nat → Int32) (ws : Nat → Int32) (bc : Nat → Int32) (im : Nat → Int32) (isd : Nat → Int32) (kp : Nat → Int32) (vl : Nat → Int32) (pl : Nat → Int32) (h : Int32) (a : Int32) (i0 : bk ≤ 40) (i1 : okN nw) (i2 : okB 40 bc) (i3 : okB 2 im) (i4 : bdA 60 24 pl) : Met l yX4_with wsX4_with ({ frames := 7, cells := 0, slots := 0, locals := 162 }) (va_Pc [.ref m0, .int h, .int a] (fun U => U.heap.size = sz ∧ va_P (dC, dI) vwCl [(m0, .inr (4, [.ref m1, .ref m2, .int (nI bk), .ref m3, .ref m4, .ref m5, .ref m6, .int sd, .ref m7, .ref m8, .int cl, .int pc, .int op])), (m1, .inl (km1, 93, .inl nw)), (m2, .inl (km2, 93, .inl ws)), (m3, .inl (km3, 3720, .inl bc)), (m4, .inl (km4, 186, .inl im)), (m5, .inl (km5, 2, .inl isd)), (m6, .inl (km6, 2, .inl kp)), (m7, .inl (km7, 1525, .inl vl)), (m8, .inl (km8, 24, .inl pl))] U.heap ∧ va_K (dC, dI) vwCl [(km1, .int), (km2, .int), (km3, .int), (km4, .int), (km5, .int), (km6, .boolean), (km7, .int), (km8, .int)] U ∧ va_D (fun _ => True) [(m0, .inr (4, [.ref m1, .ref m2, .int (nI bk), .ref m3, .ref m4, .ref m5, .ref m6, .int sd, .ref m7, .ref m8, .int cl, .int pc, .int op])), (m1, .inl (km1, 93, .inl nw)), (m2, .inl (km2, 93, .inl ws)), (m3, .inl (km3, 3720, .inl bc)), (m4, .inl (km4, 186, .inl im)), (m5, .inl (km5, 2, .inl isd)), (m6, .inl (km6, 2, .inl kp)), (m7, .inl (km7, 1525, .inl vl)), (m8, .inl (km8, 24, .inl pl))])) (va_Qi (fun (r u : Int32) => u = r) (fun r t => ∃ (bk' : Nat) (sd' : Int32) (cl' : Int32) (pc' : Int32) (op' : Int32) (nw' : Nat → Int32) (ws' : Nat → Int32) (bc' : Nat → Int32) (im' : Nat → Int32) (isd' : Nat → Int32) (vl' : Nat → Int32) (pl' : Nat → Int32), bk' ≤ 40 ∧ okN nw' ∧ okB 40 bc' ∧ okB 2 im' ∧ bdA 60 24 pl' ∧ va_P (dC, dI) vwCl [(m0, .inr (4, [.ref m1, .ref m2, .int (nI bk'), .ref m3, .ref m4, .ref m5, .ref m6, .int sd', .ref m7, .ref m8, .int cl', .int pc', .int op'])), (m1, .inl (km1, 93, .inl nw')), (m2, .inl (km2, 93, .inl ws')), (m3, .inl (km3, 3720, .inl bc')), (m4, .inl (km4, 186, .inl im')), (m5, .inl (km5, 2, .inl isd')), (m6, .inl (km6, 2, .inl kp)), (m7, .inl (km7, 1525, .inl vl')), (m8, .inl (km8, 24, .inl pl'))] t.heap ∧ va_K (dC, dI) vwCl [(km1, .int), (km2, .int), (km3, .int), (km4, .int), (km5, .int), (km6, .boolean), (km7, .int), (km8, .int)] t ∧ va_D (va_A [(m0, .inr (4, [.ref m1, .ref m2, .int (nI bk), .ref m3, .ref m4, .ref m5, .ref m6, .int sd, .ref m7, .ref m8, .int cl, .int pc, .int op])), (m1, .inl (km1, 93, .inl nw)), (m2, .inl (km2, 93, .inl ws)), (m3, .inl (km3, 3720, .inl bc)), (m4, .inl (km4, 186, .inl im)), (m5, .inl (km5, 2, .inl isd)), (m6, .inl (km6, 2, .inl kp)), (m7, .inl (km7, 1525, .inl vl)), (m8, .inl (km8, 24, .inl pl))] sz) [(m0, .inr (4, [.ref m1, .ref m2, .int (nI bk'), .ref m3, .ref m4, .ref m5, .ref m6, .int sd', .ref m7, .ref m8, .int cl', .int pc', .int op'])), (m1, .inl (km1, 93, .inl nw')), (m2, .inl (km2, 93, .inl ws')), (m3, .inl (km3, 3720, .inl bc')), (m4, .inl (km4, 186, .inl im')), (m5, .inl (km5, 2, .inl isd')), (m6, .inl (km6, 2, .inl kp)), (m7, .inl (km7, 1525, .inl vl')), (m8, .inl (km8, 24, .inl pl'))]) (va_A [(m0, .inr (4, [.ref m1, .ref m2, .int (nI bk), .ref m3, .ref m4, .ref m5, .ref m6, .int sd, .ref m7, .ref m8, .int cl, .int pc, .int op])), (m1, .inl (km1, 93, .inl nw)), (m2, .inl (km2, 93, .inl ws)), (m3, .inl (km3, 3720, .inl bc)), (m4, .inl (km4, 186, .inl im)), (m5, .inl (km5, 2, .inl isd)), (m6, .inl (km6, 2, .inl kp)), (m7, .inl (km7, 1525, .inl vl)), (m8, .inl (km8, 24, .inl pl))] sz)) 0 0 (va_A [(m0, .inr (4, [.ref m1, .ref m2, .int (nI bk), .ref m3, .ref m4, .ref m5, .ref m6, .int sd, .ref m7, .ref m8, .int cl, .int pc, .int op])), (m1, .inl (km1, 93, .inl nw)), (m2, .inl (km2, 93, .inl ws)), (m3, .inl (km3, 3720, .inl bc)), (m4, .inl (km4, 186, .inl im)), (m5, .inl (km5, 2, .inl isd)), (m6, .inl (km6, 2, .inl kp)), (m7, .inl (km7, 1525, .inl vl)), (m8, .inl (km8, 24, .inl pl))] sz) := by
  refine Met.ofW (cc := cX4_with) (maxL := 4) (ret := (some .int)) (by decide) rfl ?_
  intro p e s m args below meth c s₁ B hml hv
  obtain ⟨rfl, hsz, hP, hK, hD0⟩ := hv
  have hx := B.exec
  have hb := B.bytes
  have hr := B.returns
  have hts := atoms_spec (ws := wsX4_with) B.pre
  have hown : s.vm.findClass RX4 = some m.cls := findClass_of_methodNamed B.named
  have hlocks := B.notSynchronized
  have inX4 : ∀ w ∈ wsX40, w ∈ wsX4_with := fun _ h => List.mem_cons_of_mem _ (List.mem_append_right _ h)
  subst hsz
  have hD := hD0.self (sz := s.heap.size)
  generalize hAe : va_A [(m0, .inr (4, [.ref m1, .ref m2, .int (nI bk), .ref m3, .ref m4, .ref m5, .ref m6, .int sd, .ref m7, .ref m8, .int cl, .int pc, .int op])), (m1, .inl (km1, 93, .inl nw)), (m2, .inl (km2, 93, .inl ws)), (m3, .inl (km3, 3720, .inl bc)), (m4, .inl (km4, 186, .inl im)), (m5, .inl (km5, 2, .inl isd)), (m6, .inl (km6, 2, .inl kp)), (m7, .inl (km7, 1525, .inl vl)), (m8, .inl (km8, 24, .inl pl))] s.heap.size = A at hD ⊢
  have hA : ∀ q : Nat, s.heap.size ≤ q → A q := fun q h => by rw [← hAe]; exact Or.inr h
  have hS : va_S A s.heap s.heap [] := va_S.rf
  have hl := lv_entry ([.ref m0, .int h, .int a]) (n := 4) (Nat.le_of_ble_eq_true rfl)
  rw [lg_entry_eq]
  generalize (lg_sl ([.ref m0, .int h, .int a]) ++ List.replicate (4 - (lg_sl ([.ref m0, .int h, .int a])).length) Slot.unset).toArray = ls at hl ⊢
  generalize hQe : MQ below _ _ s 0 0 _ = Q
  generalize ([.ref m0, .int h, .int a] : List Value).toArray = args at hts hQe ⊢
  have hl : lv_has ls 4 [(0, .ref m0), (1, .int h), (2, .int a)] := hl
  refine lv_iload_n hx hb dX4_with_0 rfl (lv_at hl 1 rfl) ?_
  refine va_calli (va_runS (As := [.int h]) (rest := []) ⟨hx, hb, hml, hown, hts⟩ (c_X4_isHour l dC dI   h  ) (va_cwS 1 hts gX4_with_X4_isHour rfl rfl rfl (by decide +kernel) ⟨Nat.le_of_ble_eq_true rfl, Nat.le_of_ble_eq_true rfl⟩) ⟨fun a U g mk q => q, fun U hU hW => ⟨rfl, trivial⟩⟩ rfl rfl hl.1 rfl (lv_room (Nat.le_of_ble_eq_true rfl)) dX4_with_1 ⟨Nat.le_of_ble_eq_true rfl, Nat.le_of_ble_eq_true rfl⟩) hS (fun q _ h => h.elim) (fun q h => h.elim) (fun r_1 u9 t9 H1 locs ht hvm hw hB hz1 hk1 hS => ?_)
  refine W.widen (k := 0) (n := 0) (Nat.le_of_ble_eq_true rfl) (Nat.le_of_ble_eq_true rfl) ?_
  have hP := hP.kept (H1 := H1) (fun k q hk => hk1 q.1 (hP k q hk).lt (fun h => h))
  clear hz1 hk1 hB ht hvm t9
  generalize H1 = H at hP hS ⊢
  have hP : va_P (dC, dI) vwCl [(m0, .inr (4, [.ref m1, .ref m2, .int (nI bk), .ref m3, .ref m4, .ref m5, .ref m6, .int sd, .ref m7, .ref m8, .int cl, .int pc, .int op])), (m1, .inl (km1, 93, .inl nw)), (m2, .inl (km2, 93, .inl ws)), (m3, .inl (km3, 3720, .inl bc)), (m4, .inl (km4, 186, .inl im)), (m5, .inl (km5, 2, .inl isd)), (m6, .inl (km6, 2, .inl kp)), (m7, .inl (km7, 1525, .inl vl)), (m8, .inl (km8, 24, .inl pl))] H := hP
  have wr_1 := hw
  clear hw
  refine lv_if_ne (tgt := 10) hx hb dX4_with_4 (by decide) (fun c_4 => ?_) (fun c_4 => ?_)
  · obtain ⟨j_2, hj_2, rfl⟩ := b_1 wr_1 c_4
    refine lv_iload_n hx hb dX4_with_10 rfl (lv_at hl 2 rfl) ?_
    refine lv_sipush (v := (-999)) hx hb dX4_with_11 (by decide) ?_
    refine lv_sipush (v := nI 999) hx hb dX4_with_14 (by decide) ?_
    refine va_calli (va_runS (As := [.int a, .int ((-999)), .int (nI 999)]) (rest := []) ⟨hx, hb, hml, hown, hts⟩ (c_X4_in l dC dI   a ((-999)) (nI 999)  ) (va_cwS 3 hts gX4_with_X4_in rfl rfl rfl (by decide +kernel) ⟨Nat.le_of_ble_eq_true rfl, Nat.le_of_ble_eq_true rfl⟩) ⟨fun a U g mk q => q, fun U hU hW => ⟨rfl, trivial⟩⟩ rfl rfl hl.1 rfl (lv_room (Nat.le_of_ble_eq_true rfl)) dX4_with_17 ⟨Nat.le_of_ble_eq_true rfl, Nat.le_of_ble_eq_true rfl⟩) hS (fun q _ h => h.elim) (fun q h => h.elim) (fun r_3 u9 t9 H1 locs ht hvm hw hB hz1 hk1 hS => ?_)
    refine W.widen (k := 0) (n := 0) (Nat.le_of_ble_eq_true rfl) (Nat.le_of_ble_eq_true rfl) ?_
    have hP := hP.kept (H1 := H1) (fun k q hk => hk1 q.1 (hP k q hk).lt (fun h => h))
    clear hz1 hk1 hB ht hvm t9
    generalize H1 = H at hP hS ⊢
    have hP : va_P (dC, dI) vwCl [(m0, .inr (4, [.ref m1, .ref m2, .int (nI bk), .ref m3, .ref m4, .ref m5, .ref m6, .int sd, .ref m7, .ref m8, .int cl, .int pc, .int op])), (m1, .inl (km1, 93, .inl nw)), (m2, .inl (km2, 93, .inl ws)), (m3, .inl (km3, 3720, .inl bc)), (m4, .inl (km4, 186, .inl im)), (m5, .inl (km5, 2, .inl isd)), (m6, .inl (km6, 2, .inl kp)), (m7, .inl (km7, 1525, .inl vl)), (m8, .inl (km8, 24, .inl pl))] H := hP
    have wr_3 := hw
    clear hw
    refine lv_if_ne (tgt := 26) hx hb dX4_with_20 (by decide) (fun c_20 => ?_) (fun c_20 => ?_)
    · have nc_20 := b_1 wr_3 c_20
      refine lv_aload_n hx hb dX4_with_26 rfl (lv_at hl 0 rfl) ?_
      refine lv_iload_n hx hb dX4_with_27 rfl (lv_at hl 1 rfl) ?_
      refine va_put (D := (dC, dI)) (ci := 4) (v := .int (nI j_2)) (ty := .int) (C := RX4) (T := TX4) (N := 13) hx hb hts inX4 tyX4 tyX4_ok nmX4 hown hK hP hD hS 0 rfl rfl 11 (by decide) (hts (.fieldLink RX4 39 "StoreSlopesModel" "priced" "I") (List.mem_of_getElem? (i := 3) rfl)) (fun _ h9 => h9) rfl (by decide +kernel) rfl rfl (Nat.le_of_ble_eq_true rfl) dX4_with_28 (fun H locs hP hD hS => ?_)
      have hP : va_P (dC, dI) vwCl [(m0, .inr (4, [.ref m1, .ref m2, .int (nI bk), .ref m3, .ref m4, .ref m5, .ref m6, .int sd, .ref m7, .ref m8, .int cl, .int (nI j_2), .int op])), (m1, .inl (km1, 93, .inl nw)), (m2, .inl (km2, 93, .inl ws)), (m3, .inl (km3, 3720, .inl bc)), (m4, .inl (km4, 186, .inl im)), (m5, .inl (km5, 2, .inl isd)), (m6, .inl (km6, 2, .inl kp)), (m7, .inl (km7, 1525, .inl vl)), (m8, .inl (km8, 24, .inl pl))] H := hP
      have hD : va_D A [(m0, .inr (4, [.ref m1, .ref m2, .int (nI bk), .ref m3, .ref m4, .ref m5, .ref m6, .int sd, .ref m7, .ref m8, .int cl, .int (nI j_2), .int op])), (m1, .inl (km1, 93, .inl nw)), (m2, .inl (km2, 93, .inl ws)), (m3, .inl (km3, 3720, .inl bc)), (m4, .inl (km4, 186, .inl im)), (m5, .inl (km5, 2, .inl isd)), (m6, .inl (km6, 2, .inl kp)), (m7, .inl (km7, 1525, .inl vl)), (m8, .inl (km8, 24, .inl pl))] := hD
      refine lv_aload_n hx hb dX4_with_31 rfl (lv_at hl 0 rfl) ?_
      refine lv_iload_n hx hb dX4_with_32 rfl (lv_at hl 2 rfl) ?_
      refine va_put (D := (dC, dI)) (ci := 4) (v := .int a) (ty := .int) (C := RX4) (T := TX4) (N := 13) hx hb hts inX4 tyX4 tyX4_ok nmX4 hown hK hP hD hS 0 rfl rfl 12 (by decide) (hts (.fieldLink RX4 58 "StoreSlopesModel" "ownPrice" "I") (List.mem_of_getElem? (i := 4) rfl)) (fun _ h9 => h9) rfl (by decide +kernel) rfl rfl (Nat.le_of_ble_eq_true rfl) dX4_with_33 (fun H locs hP hD hS => ?_)
      have hP : va_P (dC, dI) vwCl [(m0, .inr (4, [.ref m1, .ref m2, .int (nI bk), .ref m3, .ref m4, .ref m5, .ref m6, .int sd, .ref m7, .ref m8, .int cl, .int (nI j_2), .int a])), (m1, .inl (km1, 93, .inl nw)), (m2, .inl (km2, 93, .inl ws)), (m3, .inl (km3, 3720, .inl bc)), (m4, .inl (km4, 186, .inl im)), (m5, .inl (km5, 2, .inl isd)), (m6, .inl (km6, 2, .inl kp)), (m7, .inl (km7, 1525, .inl vl)), (m8, .inl (km8, 24, .inl pl))] H := hP
      have hD : va_D A [(m0, .inr (4, [.ref m1, .ref m2, .int (nI bk), .ref m3, .ref m4, .ref m5, .ref m6, .int sd, .ref m7, .ref m8, .int cl, .int (nI j_2), .int a])), (m1, .inl (km1, 93, .inl nw)), (m2, .inl (km2, 93, .inl ws)), (m3, .inl (km3, 3720, .inl bc)), (m4, .inl (km4, 186, .inl im)), (m5, .inl (km5, 2, .inl isd)), (m6, .inl (km6, 2, .inl kp)), (m7, .inl (km7, 1525, .inl vl)), (m8, .inl (km8, 24, .inl pl))] := hD
      refine lv_aload_n hx hb dX4_with_36 rfl (lv_at hl 0 rfl) ?_
      have hPc := hP.sub (ws' := [(m0, .inr (4, [.ref m1, .ref m2, .int (nI bk), .ref m3, .ref m4, .ref m5, .ref m6, .int sd, .ref m7, .ref m8, .int cl, .int (nI j_2), .int a])), (m1, .inl (km1, 93, .inl nw)), (m7, .inl (km7, 1525, .inl vl))]) [0, 1, 7] rfl
      have hKc := hK.sub (tys' := [(km1, .int), (km7, .int)]) [0, 6] rfl
      have hDc := hD.sub (ws' := [(m0, .inr (4, [.ref m1, .ref m2, .int (nI bk), .ref m3, .ref m4, .ref m5, .ref m6, .int sd, .ref m7, .ref m8, .int cl, .int (nI j_2), .int a])), (m1, .inl (km1, 93, .inl nw)), (m7, .inl (km7, 1525, .inl vl))]) [0, 1, 7] (by decide) rfl
      have hFc := va_free (wc := [(m0, .inr (4, [.ref m1, .ref m2, .int (nI bk), .ref m3, .ref m4, .ref m5, .ref m6, .int sd, .ref m7, .ref m8, .int cl, .int (nI j_2), .int a])), (m1, .inl (km1, 93, .inl nw)), (m7, .inl (km7, 1525, .inl vl))]) hD hS hA [0, 1, 7] rfl
      refine va_calli (va_runV (As := []) (rest := []) ⟨hx, hb, hml, hown, hts⟩ (c_X4_bestOf l dC dI m0 m1 m7 m2 m3 m4 m5 m6 m8 km1 km7 H.size bk sd cl (nI j_2) a nw vl  (by first | assumption | omega) (by first | assumption | omega) ) (cwV 0 hts gX4_with_X4_bestOf rfl rfl rfl (by decide +kernel) ⟨Nat.le_of_ble_eq_true rfl, Nat.le_of_ble_eq_true rfl⟩) ⟨fun a U g mk q => by obtain ⟨q0, q1, qP, qK, qD⟩ := q; exact ⟨q0, q1, qP, va_K.moved (u := U) (U := U.calling g mk a) (Vm.Alike.refl U.vm) qK, qD⟩, va_recv hKc hPc (ci := 4) (q0 := 0) rfl rfl, fun U hU hW => ⟨rfl, by rw [hU], by rw [hU]; exact hPc, va_K.moved hW.alike hKc, hDc.weaken (fun _ _ _ _ => trivial)⟩⟩ rfl rfl hl.1 rfl (lv_room (Nat.le_of_ble_eq_true rfl)) dX4_with_37 ⟨Nat.le_of_ble_eq_true rfl, Nat.le_of_ble_eq_true rfl⟩) hS (fun q _ h => hFc q h) hFc (fun r_4 u9 t9 H1 locs ht hvm hw hB hz1 hk1 hS => ?_)
      refine W.widen (k := 0) (n := 0) (Nat.le_of_ble_eq_true rfl) (Nat.le_of_ble_eq_true rfl) ?_
      obtain ⟨vl_5, h_6, h_7, hP1, hK1, hD1⟩ := hB
      rw [ht] at hP1
      have hw := hw.symm
      subst hw
      obtain ⟨hP, hD⟩ := va_join (wr := [(m2, .inl (km2, 93, .inl ws)), (m3, .inl (km3, 3720, .inl bc)), (m4, .inl (km4, 186, .inl im)), (m5, .inl (km5, 2, .inl isd)), (m6, .inl (km6, 2, .inl kp)), (m8, .inl (km8, 24, .inl pl))]) (w1 := [(m0, .inr (4, [.ref m1, .ref m2, .int (nI bk), .ref m3, .ref m4, .ref m5, .ref m6, .int sd, .ref m7, .ref m8, .int cl, .int (nI j_2), .int a])), (m1, .inl (km1, 93, .inl nw)), (m7, .inl (km7, 1525, .inl vl_5))]) hP hD [0, 1, 7] [2, 3, 4, 5, 6, 8] rfl rfl (by decide) (by decide) hk1 hFc hP1 hD1
      clear hPc hDc hKc hFc hz1 hk1 ht hvm hP1 hK1 hD1 t9
      generalize H1 = H at hP hS ⊢
      have hP := hP.sub (ws' := [(m0, .inr (4, [.ref m1, .ref m2, .int (nI bk), .ref m3, .ref m4, .ref m5, .ref m6, .int sd, .ref m7, .ref m8, .int cl, .int (nI j_2), .int a])), (m1, .inl (km1, 93, .inl nw)), (m2, .inl (km2, 93, .inl ws)), (m3, .inl (km3, 3720, .inl bc)), (m4, .inl (km4, 186, .inl im)), (m5, .inl (km5, 2, .inl isd)), (m6, .inl (km6, 2, .inl kp)), (m7, .inl (km7, 1525, .inl vl_5)), (m8, .inl (km8, 24, .inl pl))]) [6, 7, 0, 1, 2, 3, 4, 8, 5] rfl
      have hD := hD.sub (ws' := [(m0, .inr (4, [.ref m1, .ref m2, .int (nI bk), .ref m3, .ref m4, .ref m5, .ref m6, .int sd, .ref m7, .ref m8, .int cl, .int (nI j_2), .int a])), (m1, .inl (km1, 93, .inl nw)), (m2, .inl (km2, 93, .inl ws)), (m3, .inl (km3, 3720, .inl bc)), (m4, .inl (km4, 186, .inl im)), (m5, .inl (km5, 2, .inl isd)), (m6, .inl (km6, 2, .inl kp)), (m7, .inl (km7, 1525, .inl vl_5)), (m8, .inl (km8, 24, .inl pl))]) [6, 7, 0, 1, 2, 3, 4, 8, 5] (by decide) rfl
      refine lv_istore_n (lv' := [(3, .int r_4), (0, .ref m0), (1, .int (nI j_2)), (2, .int a)]) hx hb dX4_with_40 rfl hl (by decide) rfl (fun ls hl => ?_)
      refine lv_aload_n hx hb dX4_with_41 rfl (lv_at hl 1 rfl) ?_
      refine lv_iconst (v := (-1)) hx hb dX4_with_42 (by decide) ?_
      refine va_put (D := (dC, dI)) (ci := 4) (v := .int ((-1))) (ty := .int) (C := RX4) (T := TX4) (N := 13) hx hb hts inX4 tyX4 tyX4_ok nmX4 hown hK hP hD hS 0 rfl rfl 11 (by decide) (hts (.fieldLink RX4 39 "StoreSlopesModel" "priced" "I") (List.mem_of_getElem? (i := 3) rfl)) (fun _ h9 => h9) rfl (by decide +kernel) rfl rfl (Nat.le_of_ble_eq_true rfl) dX4_with_43 (fun H locs hP hD hS => ?_)
      have hP : va_P (dC, dI) vwCl [(m0, .inr (4, [.ref m1, .ref m2, .int (nI bk), .ref m3, .ref m4, .ref m5, .ref m6, .int sd, .ref m7, .ref m8, .int cl, .int ((-1)), .int a])), (m1, .inl (km1, 93, .inl nw)), (m2, .inl (km2, 93, .inl ws)), (m3, .inl (km3, 3720, .inl bc)), (m4, .inl (km4, 186, .inl im)), (m5, .inl (km5, 2, .inl isd)), (m6, .inl (km6, 2, .inl kp)), (m7, .inl (km7, 1525, .inl vl_5)), (m8, .inl (km8, 24, .inl pl))] H := hP
      have hD : va_D A [(m0, .inr (4, [.ref m1, .ref m2, .int (nI bk), .ref m3, .ref m4, .ref m5, .ref m6, .int sd, .ref m7, .ref m8, .int cl, .int ((-1)), .int a])), (m1, .inl (km1, 93, .inl nw)), (m2, .inl (km2, 93, .inl ws)), (m3, .inl (km3, 3720, .inl bc)), (m4, .inl (km4, 186, .inl im)), (m5, .inl (km5, 2, .inl isd)), (m6, .inl (km6, 2, .inl kp)), (m7, .inl (km7, 1525, .inl vl_5)), (m8, .inl (km8, 24, .inl pl))] := hD
      refine lv_iload_n hx hb dX4_with_46 rfl (lv_at hl 0 rfl) ?_
      refine va_calli (va_runS (As := [.int r_4]) (rest := []) ⟨hx, hb, hml, hown, hts⟩ (c_X4_shown l dC dI   r_4  ) (va_cwS 1 hts gX4_with_X4_shown rfl rfl rfl (by decide +kernel) ⟨Nat.le_of_ble_eq_true rfl, Nat.le_of_ble_eq_true rfl⟩) ⟨fun a U g mk q => q, fun U hU hW => ⟨rfl, trivial⟩⟩ rfl rfl hl.1 rfl (lv_room (Nat.le_of_ble_eq_true rfl)) dX4_with_47 ⟨Nat.le_of_ble_eq_true rfl, Nat.le_of_ble_eq_true rfl⟩) hS (fun q _ h => h.elim) (fun q h => h.elim) (fun r_9 u9 t9 H1 locs ht hvm hw hB hz1 hk1 hS => ?_)
      refine W.widen (k := 0) (n := 0) (Nat.le_of_ble_eq_true rfl) (Nat.le_of_ble_eq_true rfl) ?_
      have hP := hP.kept (H1 := H1) (fun k q hk => hk1 q.1 (hP k q hk).lt (fun h => h))
      clear hz1 hk1 hB ht hvm t9
      generalize H1 = H at hP hS ⊢
      have hP : va_P (dC, dI) vwCl [(m0, .inr (4, [.ref m1, .ref m2, .int (nI bk), .ref m3, .ref m4, .ref m5, .ref m6, .int sd, .ref m7, .ref m8, .int cl, .int ((-1)), .int a])), (m1, .inl (km1, 93, .inl nw)), (m2, .inl (km2, 93, .inl ws)), (m3, .inl (km3, 3720, .inl bc)), (m4, .inl (km4, 186, .inl im)), (m5, .inl (km5, 2, .inl isd)), (m6, .inl (km6, 2, .inl kp)), (m7, .inl (km7, 1525, .inl vl_5)), (m8, .inl (km8, 24, .inl pl))] H := hP
      clear hw
      subst hQe
      have hP9 := hP.sub (ws' := [(m0, .inr (4, [.ref m1, .ref m2, .int (nI bk), .ref m3, .ref m4, .ref m5, .ref m6, .int sd, .ref m7, .ref m8, .int cl, .int ((-1)), .int a])), (m1, .inl (km1, 93, .inl nw)), (m2, .inl (km2, 93, .inl ws)), (m3, .inl (km3, 3720, .inl bc)), (m4, .inl (km4, 186, .inl im)), (m5, .inl (km5, 2, .inl isd)), (m6, .inl (km6, 2, .inl kp)), (m7, .inl (km7, 1525, .inl vl_5)), (m8, .inl (km8, 24, .inl pl))]) [0, 1, 2, 3, 4, 5, 6, 7, 8] rfl
      have hD9 := hD.sub (ws' := [(m0, .inr (4, [.ref m1, .ref m2, .int (nI bk), .ref m3, .ref m4, .ref m5, .ref m6, .int sd, .ref m7, .ref m8, .int cl, .int ((-1)), .int a])), (m1, .inl (km1, 93, .inl nw)), (m2, .inl (km2, 93, .inl ws)), (m3, .inl (km3, 3720, .inl bc)), (m4, .inl (km4, 186, .inl im)), (m5, .inl (km5, 2, .inl isd)), (m6, .inl (km6, 2, .inl kp)), (m7, .inl (km7, 1525, .inl vl_5)), (m8, .inl (km8, 24, .inl pl))]) [0, 1, 2, 3, 4, 5, 6, 7, 8] (by decide) rfl
      have hK9 := hK.sub (tys' := [(km1, .int), (km2, .int), (km3, .int), (km4, .int), (km5, .int), (km6, .boolean), (km7, .int), (km8, .int)]) [0, 1, 2, 3, 4, 5, 6, 7] rfl
      subst hAe
      exact W.iret (v := r_9) hx hb hr (fun t ht hW => ⟨⟨_, _, rfl, rfl, bk, sd, cl, ((-1)), a, nw, ws, bc, im, isd, vl_5, pl, (by first | assumption | omega), (by first | assumption | omega), (by first | assumption | omega), (by first | assumption | omega), (by first | assumption | omega), by rw [ht]; exact hP9, va_K.moved hW.alike hK9, hD9⟩, hS.F ht⟩) hS.2.2 dX4_with_50
    · have nc_20 := b_0 wr_3 c_20
      refine lv_ldc (own := RX4) (v := (-1000000002)) hx hb hown (hts (.constant RX4 110 (-1000000002)) (List.mem_of_getElem? (i := 2) rfl)) dX4_with_23 ?_
      subst hQe
      have hP9 := hP.sub (ws' := [(m0, .inr (4, [.ref m1, .ref m2, .int (nI bk), .ref m3, .ref m4, .ref m5, .ref m6, .int sd, .ref m7, .ref m8, .int cl, .int pc, .int op])), (m1, .inl (km1, 93, .inl nw)), (m2, .inl (km2, 93, .inl ws)), (m3, .inl (km3, 3720, .inl bc)), (m4, .inl (km4, 186, .inl im)), (m5, .inl (km5, 2, .inl isd)), (m6, .inl (km6, 2, .inl kp)), (m7, .inl (km7, 1525, .inl vl)), (m8, .inl (km8, 24, .inl pl))]) [0, 1, 2, 3, 4, 5, 6, 7, 8] rfl
      have hD9 := hD.sub (ws' := [(m0, .inr (4, [.ref m1, .ref m2, .int (nI bk), .ref m3, .ref m4, .ref m5, .ref m6, .int sd, .ref m7, .ref m8, .int cl, .int pc, .int op])), (m1, .inl (km1, 93, .inl nw)), (m2, .inl (km2, 93, .inl ws)), (m3, .inl (km3, 3720, .inl bc)), (m4, .inl (km4, 186, .inl im)), (m5, .inl (km5, 2, .inl isd)), (m6, .inl (km6, 2, .inl kp)), (m7, .inl (km7, 1525, .inl vl)), (m8, .inl (km8, 24, .inl pl))]) [0, 1, 2, 3, 4, 5, 6, 7, 8] (by decide) rfl
      have hK9 := hK.sub (tys' := [(km1, .int), (km2, .int), (km3, .int), (km4, .int), (km5, .int), (km6, .boolean), (km7, .int), (km8, .int)]) [0, 1, 2, 3, 4, 5, 6, 7] rfl
      subst hAe
      exact W.iret (v := ((-1000000002))) hx hb hr (fun t ht hW => ⟨⟨_, _, rfl, rfl, bk, sd, cl, pc, op, nw, ws, bc, im, isd, vl, pl, (by first | assumption | omega), (by first | assumption | omega), (by first | assumption | omega), (by first | assumption | omega), (by first | assumption | omega), by rw [ht]; exact hP9, va_K.moved hW.alike hK9, hD9⟩, hS.F ht⟩) hS.2.2 dX4_with_25
  · have nc_4 := b_0 wr_1 c_4
    refine lv_ldc (own := RX4) (v := (-1000000001)) hx hb hown (hts (.constant RX4 109 (-1000000001)) (List.mem_of_getElem? (i := 1) rfl)) dX4_with_7 ?_
    subst hQe
    have hP9 := hP.sub (ws' := [(m0, .inr (4, [.ref m1, .ref m2, .int (nI bk), .ref m3, .ref m4, .ref m5, .ref m6, .int sd, .ref m7, .ref m8, .int cl, .int pc, .int op])), (m1, .inl (km1, 93, .inl nw)), (m2, .inl (km2, 93, .inl ws)), (m3, .inl (km3, 3720, .inl bc)), (m4, .inl (km4, 186, .inl im)), (m5, .inl (km5, 2, .inl isd)), (m6, .inl (km6, 2, .inl kp)), (m7, .inl (km7, 1525, .inl vl)), (m8, .inl (km8, 24, .inl pl))]) [0, 1, 2, 3, 4, 5, 6, 7, 8] rfl
    have hD9 := hD.sub (ws' := [(m0, .inr (4, [.ref m1, .ref m2, .int (nI bk), .ref m3, .ref m4, .ref m5, .ref m6, .int sd, .ref m7, .ref m8, .int cl, .int pc, .int op])), (m1, .inl (km1, 93, .inl nw)), (m2, .inl (km2, 93, .inl ws)), (m3, .inl (km3, 3720, .inl bc)), (m4, .inl (km4, 186, .inl im)), (m5, .inl (km5, 2, .inl isd)), (m6, .inl (km6, 2, .inl kp)), (m7, .inl (km7, 1525, .inl vl)), (m8, .inl (km8, 24, .inl pl))]) [0, 1, 2, 3, 4, 5, 6, 7, 8] (by decide) rfl
    have hK9 := hK.sub (tys' := [(km1, .int), (km2, .int), (km3, .int), (km4, .int), (km5, .int), (km6, .boolean), (km7, .int), (km8, .int)]) [0, 1, 2, 3, 4, 5, 6, 7] rfl
    subst hAe
    exact W.iret (v := ((-1000000001))) hx hb hr (fun t ht hW => ⟨⟨_, _, rfl, rfl, bk, sd, cl, pc, op, nw, ws, bc, im, isd, vl, pl, (by first | assumption | omega), (by first | assumption | omega), (by first | assumption | omega), (by first | assumption | omega), (by first | assumption | omega), by rw [ht]; exact hP9, va_K.moved hW.alike hK9, hD9⟩, hS.F ht⟩) hS.2.2 dX4_with_9
set_option maxHeartbeats 4000000 in
set_option maxRecDepth 100000 in
theorem c_X4_seed (l : Launch) (dC : Nat → ClassId) (dI : Nat → Nat → Nat) (m0 m1 m2 m3 m4 m5 m6 m7 m8 : Nat) (km1 km2 km3 km4 km5 km6 km7 km8 : ClassId) (sz : Nat) (bk : Nat) (sd : Int32) (cl : Int32) (pc : Int32) (op : Int32) (nw : Nat → Int32) (ws : Nat → Int32) (bc : Nat → Int32) (im : Nat → Int32) (isd : Nat → Int32) (kp : Nat → Int32) (vl : Nat → Int32) (pl : Nat → Int32) (a : Int32) (i0 : bk ≤ 40) (i1 : okN nw) (i2 : okB 40 bc) (i3 : okB 2 im) (i4 : bdA 60 24 pl) : Met l yX4_seed wsX4_seed ({ frames := 0, cells := 0, slots := 0, locals := 0 }) (va_Pc [.ref m0, .int a] (fun U => U.heap.size = sz ∧ va_P (dC, dI) vwCl [(m0, .inr (4, [.ref m1, .ref m2, .int (nI bk), .ref m3, .ref m4, .ref m5, .ref m6, .int sd, .ref m7, .ref m8, .int cl, .int pc, .int op])), (m1, .inl (km1, 93, .inl nw)), (m2, .inl (km2, 93, .inl ws)), (m3, .inl (km3, 3720, .inl bc)), (m4, .inl (km4, 186, .inl im)), (m5, .inl (km5, 2, .inl isd)), (m6, .inl (km6, 2, .inl kp)), (m7, .inl (km7, 1525, .inl vl)), (m8, .inl (km8, 24, .inl pl))] U.heap ∧ va_K (dC, dI) vwCl [(km1, .int), (km2, .int), (km3, .int), (km4, .int), (km5, .int), (km6, .boolean), (km7, .int), (km8, .int)] U ∧ va_D (fun _ => True) [(m0, .inr (4, [.ref m1, .ref m2, .int (nI bk), .ref m3, .ref m4, .ref m5, .ref m6, .int sd, .ref m7, .ref m8, .int cl, .int pc, .int op])), (m1, .inl (km1, 93, .inl nw)), (m2, .inl (km2, 93, .inl ws)), (m3, .inl (km3, 3720, .inl bc)), (m4, .inl (km4, 186, .inl im)), (m5, .inl (km5, 2, .inl isd)), (m6, .inl (km6, 2, .inl kp)), (m7, .inl (km7, 1525, .inl vl)), (m8, .inl (km8, 24, .inl pl))])) (va_Qi (fun (r u : Int32) => u = r) (fun r t => ∃ (bk' : Nat) (sd' : Int32) (cl' : Int32) (pc' : Int32) (op' : Int32) (nw' : Nat → Int32) (ws' : Nat → Int32) (bc' : Nat → Int32) (im' : Nat → Int32) (isd' : Nat → Int32) (vl' : Nat → Int32) (pl' : Nat → Int32), bk' ≤ 40 ∧ okN nw' ∧ okB 40 bc' ∧ okB 2 im' ∧ bdA 60 24 pl' ∧ va_P (dC, dI) vwCl [(m0, .inr (4, [.ref m1, .ref m2, .int (nI bk'), .ref m3, .ref m4, .ref m5, .ref m6, .int sd', .ref m7, .ref m8, .int cl', .int pc', .int op'])), (m1, .inl (km1, 93, .inl nw')), (m2, .inl (km2, 93, .inl ws')), (m3, .inl (km3, 3720, .inl bc')), (m4, .inl (km4, 186, .inl im')), (m5, .inl (km5, 2, .inl isd')), (m6, .inl (km6, 2, .inl kp)), (m7, .inl (km7, 1525, .inl vl')), (m8, .inl (km8, 24, .inl pl'))] t.heap ∧ va_K (dC, dI) vwCl [(km1, .int), (km2, .int), (km3, .int), (km4, .int), (km5, .int), (km6, .boolean), (km7, .int), (km8, .int)] t ∧ va_D (va_A [(m0, .inr (4, [.ref m1, .ref m2, .int (nI bk), .ref m3, .ref m4, .ref m5, .ref m6, .int sd, .ref m7, .ref m8, .int cl, .int pc, .int op])), (m1, .inl (km1, 93, .inl nw)), (m2, .inl (km2, 93, .inl ws)), (m3, .inl (km3, 3720, .inl bc)), (m4, .inl (km4, 186, .inl im)), (m5, .inl (km5, 2, .inl isd)), (m6, .inl (km6, 2, .inl kp)), (m7, .inl (km7, 1525, .inl vl)), (m8, .inl (km8, 24, .inl pl))] sz) [(m0, .inr (4, [.ref m1, .ref m2, .int (nI bk'), .ref m3, .ref m4, .ref m5, .ref m6, .int sd', .ref m7, .ref m8, .int cl', .int pc', .int op'])), (m1, .inl (km1, 93, .inl nw')), (m2, .inl (km2, 93, .inl ws')), (m3, .inl (km3, 3720, .inl bc')), (m4, .inl (km4, 186, .inl im')), (m5, .inl (km5, 2, .inl isd')), (m6, .inl (km6, 2, .inl kp)), (m7, .inl (km7, 1525, .inl vl')), (m8, .inl (km8, 24, .inl pl'))]) (va_A [(m0, .inr (4, [.ref m1, .ref m2, .int (nI bk), .ref m3, .ref m4, .ref m5, .ref m6, .int sd, .ref m7, .ref m8, .int cl, .int pc, .int op])), (m1, .inl (km1, 93, .inl nw)), (m2, .inl (km2, 93, .inl ws)), (m3, .inl (km3, 3720, .inl bc)), (m4, .inl (km4, 186, .inl im)), (m5, .inl (km5, 2, .inl isd)), (m6, .inl (km6, 2, .inl kp)), (m7, .inl (km7, 1525, .inl vl)), (m8, .inl (km8, 24, .inl pl))] sz)) 0 0 (va_A [(m0, .inr (4, [.ref m1, .ref m2, .int (nI bk), .ref m3, .ref m4, .ref m5, .ref m6, .int sd, .ref m7, .ref m8, .int cl, .int pc, .int op])), (m1, .inl (km1, 93, .inl nw)), (m2, .inl (km2, 93, .inl ws)), (m3, .inl (km3, 3720, .inl bc)), (m4, .inl (km4, 186, .inl im)), (m5, .inl (km5, 2, .inl isd)), (m6, .inl (km6, 2, .inl kp)), (m7, .inl (km7, 1525, .inl vl)), (m8, .inl (km8, 24, .inl pl))] sz) := by
  refine Met.ofW (cc := cX4_seed) (maxL := 3) (ret := (some .int)) (by decide) rfl ?_
  intro p e s m args below meth c s₁ B hml hv
  obtain ⟨rfl, hsz, hP, hK, hD0⟩ := hv
  have hx := B.exec
  have hb := B.bytes
  have hr := B.returns
  have hts := atoms_spec (ws := wsX4_seed) B.pre
  have hown : s.vm.findClass RX4 = some m.cls := findClass_of_methodNamed B.named
  have hlocks := B.notSynchronized
  have inX4 : ∀ w ∈ wsX40, w ∈ wsX4_seed := fun _ h => List.mem_cons_of_mem _ (List.mem_append_right _ h)
  subst hsz
  have hD := hD0.self (sz := s.heap.size)
  generalize hAe : va_A [(m0, .inr (4, [.ref m1, .ref m2, .int (nI bk), .ref m3, .ref m4, .ref m5, .ref m6, .int sd, .ref m7, .ref m8, .int cl, .int pc, .int op])), (m1, .inl (km1, 93, .inl nw)), (m2, .inl (km2, 93, .inl ws)), (m3, .inl (km3, 3720, .inl bc)), (m4, .inl (km4, 186, .inl im)), (m5, .inl (km5, 2, .inl isd)), (m6, .inl (km6, 2, .inl kp)), (m7, .inl (km7, 1525, .inl vl)), (m8, .inl (km8, 24, .inl pl))] s.heap.size = A at hD ⊢
  have hA : ∀ q : Nat, s.heap.size ≤ q → A q := fun q h => by rw [← hAe]; exact Or.inr h
  have hS : va_S A s.heap s.heap [] := va_S.rf
  have hl := lv_entry ([.ref m0, .int a]) (n := 3) (Nat.le_of_ble_eq_true rfl)
  rw [lg_entry_eq]
  generalize (lg_sl ([.ref m0, .int a]) ++ List.replicate (3 - (lg_sl ([.ref m0, .int a])).length) Slot.unset).toArray = ls at hl ⊢
  generalize hQe : MQ below _ _ s 0 0 _ = Q
  generalize ([.ref m0, .int a] : List Value).toArray = args at hts hQe ⊢
  have hl : lv_has ls 3 [(0, .ref m0), (1, .int a)] := hl
  refine lv_iload_n hx hb dX4_seed_0 rfl (lv_at hl 1 rfl) ?_
  refine lv_if_ge (tgt := 7) hx hb dX4_seed_1 (by decide) (fun c_1 => ?_) (fun c_1 => ?_)
  · refine lv_aload_n hx hb dX4_seed_7 rfl (lv_at hl 0 rfl) ?_
    refine va_get (D := (dC, dI)) (ci := 4) (v := .int sd) (C := RX4) (T := TX4) (N := 13) hx hb hts inX4 hown hK hP 0 rfl rfl 7 (by decide) (hts (.fieldLink RX4 140 "StoreSlopesModel" "seed" "I") (List.mem_of_getElem? (i := 2) rfl)) (fun _ h9 => h9) rfl dX4_seed_8 ?_
    refine lv_istore_n (lv' := [(2, .int sd), (0, .ref m0), (1, .int a)]) hx hb dX4_seed_11 rfl hl (by decide) rfl (fun ls hl => ?_)
    refine lv_aload_n hx hb dX4_seed_12 rfl (lv_at hl 1 rfl) ?_
    refine lv_iload_n hx hb dX4_seed_13 rfl (lv_at hl 2 rfl) ?_
    refine va_put (D := (dC, dI)) (ci := 4) (v := .int a) (ty := .int) (C := RX4) (T := TX4) (N := 13) hx hb hts inX4 tyX4 tyX4_ok nmX4 hown hK hP hD hS 0 rfl rfl 7 (by decide) (hts (.fieldLink RX4 140 "StoreSlopesModel" "seed" "I") (List.mem_of_getElem? (i := 2) rfl)) (fun _ h9 => h9) rfl (by decide +kernel) rfl rfl (Nat.le_of_ble_eq_true rfl) dX4_seed_14 (fun H locs hP hD hS => ?_)
    have hP : va_P (dC, dI) vwCl [(m0, .inr (4, [.ref m1, .ref m2, .int (nI bk), .ref m3, .ref m4, .ref m5, .ref m6, .int a, .ref m7, .ref m8, .int cl, .int pc, .int op])), (m1, .inl (km1, 93, .inl nw)), (m2, .inl (km2, 93, .inl ws)), (m3, .inl (km3, 3720, .inl bc)), (m4, .inl (km4, 186, .inl im)), (m5, .inl (km5, 2, .inl isd)), (m6, .inl (km6, 2, .inl kp)), (m7, .inl (km7, 1525, .inl vl)), (m8, .inl (km8, 24, .inl pl))] H := hP
    have hD : va_D A [(m0, .inr (4, [.ref m1, .ref m2, .int (nI bk), .ref m3, .ref m4, .ref m5, .ref m6, .int a, .ref m7, .ref m8, .int cl, .int pc, .int op])), (m1, .inl (km1, 93, .inl nw)), (m2, .inl (km2, 93, .inl ws)), (m3, .inl (km3, 3720, .inl bc)), (m4, .inl (km4, 186, .inl im)), (m5, .inl (km5, 2, .inl isd)), (m6, .inl (km6, 2, .inl kp)), (m7, .inl (km7, 1525, .inl vl)), (m8, .inl (km8, 24, .inl pl))] := hD
    refine lv_iload_n hx hb dX4_seed_17 rfl (lv_at hl 0 rfl) ?_
    subst hQe
    have hP9 := hP.sub (ws' := [(m0, .inr (4, [.ref m1, .ref m2, .int (nI bk), .ref m3, .ref m4, .ref m5, .ref m6, .int a, .ref m7, .ref m8, .int cl, .int pc, .int op])), (m1, .inl (km1, 93, .inl nw)), (m2, .inl (km2, 93, .inl ws)), (m3, .inl (km3, 3720, .inl bc)), (m4, .inl (km4, 186, .inl im)), (m5, .inl (km5, 2, .inl isd)), (m6, .inl (km6, 2, .inl kp)), (m7, .inl (km7, 1525, .inl vl)), (m8, .inl (km8, 24, .inl pl))]) [0, 1, 2, 3, 4, 5, 6, 7, 8] rfl
    have hD9 := hD.sub (ws' := [(m0, .inr (4, [.ref m1, .ref m2, .int (nI bk), .ref m3, .ref m4, .ref m5, .ref m6, .int a, .ref m7, .ref m8, .int cl, .int pc, .int op])), (m1, .inl (km1, 93, .inl nw)), (m2, .inl (km2, 93, .inl ws)), (m3, .inl (km3, 3720, .inl bc)), (m4, .inl (km4, 186, .inl im)), (m5, .inl (km5, 2, .inl isd)), (m6, .inl (km6, 2, .inl kp)), (m7, .inl (km7, 1525, .inl vl)), (m8, .inl (km8, 24, .inl pl))]) [0, 1, 2, 3, 4, 5, 6, 7, 8] (by decide) rfl
    have hK9 := hK.sub (tys' := [(km1, .int), (km2, .int), (km3, .int), (km4, .int), (km5, .int), (km6, .boolean), (km7, .int), (km8, .int)]) [0, 1, 2, 3, 4, 5, 6, 7] rfl
    subst hAe
    exact W.iret (v := sd) hx hb hr (fun t ht hW => ⟨⟨_, _, rfl, rfl, bk, a, cl, pc, op, nw, ws, bc, im, isd, vl, pl, (by first | assumption | omega), (by first | assumption | omega), (by first | assumption | omega), (by first | assumption | omega), (by first | assumption | omega), by rw [ht]; exact hP9, va_K.moved hW.alike hK9, hD9⟩, hS.F ht⟩) hS.2.2 dX4_seed_18
  · refine lv_ldc (own := RX4) (v := (-1000000002)) hx hb hown (hts (.constant RX4 110 (-1000000002)) (List.mem_of_getElem? (i := 1) rfl)) dX4_seed_4 ?_
    subst hQe
    have hP9 := hP.sub (ws' := [(m0, .inr (4, [.ref m1, .ref m2, .int (nI bk), .ref m3, .ref m4, .ref m5, .ref m6, .int sd, .ref m7, .ref m8, .int cl, .int pc, .int op])), (m1, .inl (km1, 93, .inl nw)), (m2, .inl (km2, 93, .inl ws)), (m3, .inl (km3, 3720, .inl bc)), (m4, .inl (km4, 186, .inl im)), (m5, .inl (km5, 2, .inl isd)), (m6, .inl (km6, 2, .inl kp)), (m7, .inl (km7, 1525, .inl vl)), (m8, .inl (km8, 24, .inl pl))]) [0, 1, 2, 3, 4, 5, 6, 7, 8] rfl
    have hD9 := hD.sub (ws' := [(m0, .inr (4, [.ref m1, .ref m2, .int (nI bk), .ref m3, .ref m4, .ref m5, .ref m6, .int sd, .ref m7, .ref m8, .int cl, .int pc, .int op])), (m1, .inl (km1, 93, .inl nw)), (m2, .inl (km2, 93, .inl ws)), (m3, .inl (km3, 3720, .inl bc)), (m4, .inl (km4, 186, .inl im)), (m5, .inl (km5, 2, .inl isd)), (m6, .inl (km6, 2, .inl kp)), (m7, .inl (km7, 1525, .inl vl)), (m8, .inl (km8, 24, .inl pl))]) [0, 1, 2, 3, 4, 5, 6, 7, 8] (by decide) rfl
    have hK9 := hK.sub (tys' := [(km1, .int), (km2, .int), (km3, .int), (km4, .int), (km5, .int), (km6, .boolean), (km7, .int), (km8, .int)]) [0, 1, 2, 3, 4, 5, 6, 7] rfl
    subst hAe
    exact W.iret (v := ((-1000000002))) hx hb hr (fun t ht hW => ⟨⟨_, _, rfl, rfl, bk, sd, cl, pc, op, nw, ws, bc, im, isd, vl, pl, (by first | assumption | omega), (by first | assumption | omega), (by first | assumption | omega), (by first | assumption | omega), (by first | assumption | omega), by rw [ht]; exact hP9, va_K.moved hW.alike hK9, hD9⟩, hS.F ht⟩) hS.2.2 dX4_seed_6
set_option maxHeartbeats 4000000 in
set_option maxRecDepth 100000 in
theorem c_X4_keep (l : Launch) (dC : Nat → ClassId) (dI : Nat → Nat → Nat) (m0 m1 m2 m3 m4 m5 m6 m7 m8 : Nat) (km1 km2 km3 km4 km5 km6 km7 km8 : ClassId) (sz : Nat) (bk : Nat) (sd : Int32) (cl : Int32) (pc : Int32) (op : Int32) (nw : Nat → Int32) (ws : Nat → Int32) (bc : Nat → Int32) (im : Nat → Int32) (isd : Nat → Int32) (kp : Nat → Int32) (vl : Nat → Int32) (pl : Nat → Int32) (i : Int32) (i0 : bk ≤ 40) (i1 : okN nw) (i2 : okB 40 bc) (i3 : okB 2 im) (i4 : bdA 60 24 pl) : Met l yX4_keep wsX4_keep ({ frames := 1, cells := 0, slots := 0, locals := 25 }) (va_Pc [.ref m0, .int i] (fun U => U.heap.size = sz ∧ va_P (dC, dI) vwCl [(m0, .inr (4, [.ref m1, .ref m2, .int (nI bk), .ref m3, .ref m4, .ref m5, .ref m6, .int sd, .ref m7, .ref m8, .int cl, .int pc, .int op])), (m1, .inl (km1, 93, .inl nw)), (m2, .inl (km2, 93, .inl ws)), (m3, .inl (km3, 3720, .inl bc)), (m4, .inl (km4, 186, .inl im)), (m5, .inl (km5, 2, .inl isd)), (m6, .inl (km6, 2, .inl kp)), (m7, .inl (km7, 1525, .inl vl)), (m8, .inl (km8, 24, .inl pl))] U.heap ∧ va_K (dC, dI) vwCl [(km1, .int), (km2, .int), (km3, .int), (km4, .int), (km5, .int), (km6, .boolean), (km7, .int), (km8, .int)] U ∧ va_D (fun _ => True) [(m0, .inr (4, [.ref m1, .ref m2, .int (nI bk), .ref m3, .ref m4, .ref m5, .ref m6, .int sd, .ref m7, .ref m8, .int cl, .int pc, .int op])), (m1, .inl (km1, 93, .inl nw)), (m2, .inl (km2, 93, .inl ws)), (m3, .inl (km3, 3720, .inl bc)), (m4, .inl (km4, 186, .inl im)), (m5, .inl (km5, 2, .inl isd)), (m6, .inl (km6, 2, .inl kp)), (m7, .inl (km7, 1525, .inl vl)), (m8, .inl (km8, 24, .inl pl))])) (va_Qi (fun (r u : Int32) => u = r) (fun r t => ∃ (bk' : Nat) (sd' : Int32) (cl' : Int32) (pc' : Int32) (op' : Int32) (nw' : Nat → Int32) (ws' : Nat → Int32) (bc' : Nat → Int32) (im' : Nat → Int32) (isd' : Nat → Int32) (vl' : Nat → Int32) (pl' : Nat → Int32) (kp' : Nat → Int32), bk' ≤ 40 ∧ okN nw' ∧ okB 40 bc' ∧ okB 2 im' ∧ bdA 60 24 pl' ∧ r = kpRes i ∧ kp' = kpNew i kp ∧ va_P (dC, dI) vwCl [(m0, .inr (4, [.ref m1, .ref m2, .int (nI bk'), .ref m3, .ref m4, .ref m5, .ref m6, .int sd', .ref m7, .ref m8, .int cl', .int pc', .int op'])), (m1, .inl (km1, 93, .inl nw')), (m2, .inl (km2, 93, .inl ws')), (m3, .inl (km3, 3720, .inl bc')), (m4, .inl (km4, 186, .inl im')), (m5, .inl (km5, 2, .inl isd')), (m6, .inl (km6, 2, .inl kp')), (m7, .inl (km7, 1525, .inl vl')), (m8, .inl (km8, 24, .inl pl'))] t.heap ∧ va_K (dC, dI) vwCl [(km1, .int), (km2, .int), (km3, .int), (km4, .int), (km5, .int), (km6, .boolean), (km7, .int), (km8, .int)] t ∧ va_D (va_A [(m0, .inr (4, [.ref m1, .ref m2, .int (nI bk), .ref m3, .ref m4, .ref m5, .ref m6, .int sd, .ref m7, .ref m8, .int cl, .int pc, .int op])), (m1, .inl (km1, 93, .inl nw)), (m2, .inl (km2, 93, .inl ws)), (m3, .inl (km3, 3720, .inl bc)), (m4, .inl (km4, 186, .inl im)), (m5, .inl (km5, 2, .inl isd)), (m6, .inl (km6, 2, .inl kp)), (m7, .inl (km7, 1525, .inl vl)), (m8, .inl (km8, 24, .inl pl))] sz) [(m0, .inr (4, [.ref m1, .ref m2, .int (nI bk'), .ref m3, .ref m4, .ref m5, .ref m6, .int sd', .ref m7, .ref m8, .int cl', .int pc', .int op'])), (m1, .inl (km1, 93, .inl nw')), (m2, .inl (km2, 93, .inl ws')), (m3, .inl (km3, 3720, .inl bc')), (m4, .inl (km4, 186, .inl im')), (m5, .inl (km5, 2, .inl isd')), (m6, .inl (km6, 2, .inl kp')), (m7, .inl (km7, 1525, .inl vl')), (m8, .inl (km8, 24, .inl pl'))]) (va_A [(m0, .inr (4, [.ref m1, .ref m2, .int (nI bk), .ref m3, .ref m4, .ref m5, .ref m6, .int sd, .ref m7, .ref m8, .int cl, .int pc, .int op])), (m1, .inl (km1, 93, .inl nw)), (m2, .inl (km2, 93, .inl ws)), (m3, .inl (km3, 3720, .inl bc)), (m4, .inl (km4, 186, .inl im)), (m5, .inl (km5, 2, .inl isd)), (m6, .inl (km6, 2, .inl kp)), (m7, .inl (km7, 1525, .inl vl)), (m8, .inl (km8, 24, .inl pl))] sz)) 0 0 (va_A [(m0, .inr (4, [.ref m1, .ref m2, .int (nI bk), .ref m3, .ref m4, .ref m5, .ref m6, .int sd, .ref m7, .ref m8, .int cl, .int pc, .int op])), (m1, .inl (km1, 93, .inl nw)), (m2, .inl (km2, 93, .inl ws)), (m3, .inl (km3, 3720, .inl bc)), (m4, .inl (km4, 186, .inl im)), (m5, .inl (km5, 2, .inl isd)), (m6, .inl (km6, 2, .inl kp)), (m7, .inl (km7, 1525, .inl vl)), (m8, .inl (km8, 24, .inl pl))] sz) := by
  refine Met.ofW (cc := cX4_keep) (maxL := 2) (ret := (some .int)) (by decide) rfl ?_
  intro p e s m args below meth c s₁ B hml hv
  obtain ⟨rfl, hsz, hP, hK, hD0⟩ := hv
  have hx := B.exec
  have hb := B.bytes
  have hr := B.returns
  have hts := atoms_spec (ws := wsX4_keep) B.pre
  have hown : s.vm.findClass RX4 = some m.cls := findClass_of_methodNamed B.named
  have hlocks := B.notSynchronized
  have inX4 : ∀ w ∈ wsX40, w ∈ wsX4_keep := fun _ h => List.mem_cons_of_mem _ (List.mem_append_right _ h)
  subst hsz
  have hD := hD0.self (sz := s.heap.size)
  generalize hAe : va_A [(m0, .inr (4, [.ref m1, .ref m2, .int (nI bk), .ref m3, .ref m4, .ref m5, .ref m6, .int sd, .ref m7, .ref m8, .int cl, .int pc, .int op])), (m1, .inl (km1, 93, .inl nw)), (m2, .inl (km2, 93, .inl ws)), (m3, .inl (km3, 3720, .inl bc)), (m4, .inl (km4, 186, .inl im)), (m5, .inl (km5, 2, .inl isd)), (m6, .inl (km6, 2, .inl kp)), (m7, .inl (km7, 1525, .inl vl)), (m8, .inl (km8, 24, .inl pl))] s.heap.size = A at hD ⊢
  have hA : ∀ q : Nat, s.heap.size ≤ q → A q := fun q h => by rw [← hAe]; exact Or.inr h
  have hS : va_S A s.heap s.heap [] := va_S.rf
  have hl := lv_entry ([.ref m0, .int i]) (n := 2) (Nat.le_of_ble_eq_true rfl)
  rw [lg_entry_eq]
  generalize (lg_sl ([.ref m0, .int i]) ++ List.replicate (2 - (lg_sl ([.ref m0, .int i])).length) Slot.unset).toArray = ls at hl ⊢
  generalize hQe : MQ below _ _ s 0 0 _ = Q
  generalize ([.ref m0, .int i] : List Value).toArray = args at hts hQe ⊢
  have hl : lv_has ls 2 [(0, .ref m0), (1, .int i)] := hl
  refine lv_iload_n hx hb dX4_keep_0 rfl (lv_at hl 1 rfl) ?_
  refine lv_iconst (v := nI 0) hx hb dX4_keep_1 (by decide) ?_
  refine lv_iconst (v := nI 1) hx hb dX4_keep_2 (by decide) ?_
  refine va_calli (va_runS (As := [.int i, .int (nI 0), .int (nI 1)]) (rest := []) ⟨hx, hb, hml, hown, hts⟩ (c_X4_in l dC dI   i (nI 0) (nI 1)  ) (va_cwS 3 hts gX4_keep_X4_in rfl rfl rfl (by decide +kernel) ⟨Nat.le_of_ble_eq_true rfl, Nat.le_of_ble_eq_true rfl⟩) ⟨fun a U g mk q => q, fun U hU hW => ⟨rfl, trivial⟩⟩ rfl rfl hl.1 rfl (lv_room (Nat.le_of_ble_eq_true rfl)) dX4_keep_3 ⟨Nat.le_of_ble_eq_true rfl, Nat.le_of_ble_eq_true rfl⟩) hS (fun q _ h => h.elim) (fun q h => h.elim) (fun r_1 u9 t9 H1 locs ht hvm hw hB hz1 hk1 hS => ?_)
  refine W.widen (k := 0) (n := 0) (Nat.le_of_ble_eq_true rfl) (Nat.le_of_ble_eq_true rfl) ?_
  have hP := hP.kept (H1 := H1) (fun k q hk => hk1 q.1 (hP k q hk).lt (fun h => h))
  clear hz1 hk1 hB ht hvm t9
  generalize H1 = H at hP hS ⊢
  have hP : va_P (dC, dI) vwCl [(m0, .inr (4, [.ref m1, .ref m2, .int (nI bk), .ref m3, .ref m4, .ref m5, .ref m6, .int sd, .ref m7, .ref m8, .int cl, .int pc, .int op])), (m1, .inl (km1, 93, .inl nw)), (m2, .inl (km2, 93, .inl ws)), (m3, .inl (km3, 3720, .inl bc)), (m4, .inl (km4, 186, .inl im)), (m5, .inl (km5, 2, .inl isd)), (m6, .inl (km6, 2, .inl kp)), (m7, .inl (km7, 1525, .inl vl)), (m8, .inl (km8, 24, .inl pl))] H := hP
  have wr_1 := hw
  clear hw
  refine lv_if_ne (tgt := 12) hx hb dX4_keep_6 (by decide) (fun c_6 => ?_) (fun c_6 => ?_)
  · obtain ⟨j_2, hj_2, rfl⟩ := rg_0 (by decide) (b_1 wr_1 c_6)
    refine lv_aload_n hx hb dX4_keep_12 rfl (lv_at hl 0 rfl) ?_
    refine va_get (D := (dC, dI)) (ci := 4) (v := .ref m1) (C := RX4) (T := TX4) (N := 13) hx hb hts inX4 hown hK hP 0 rfl rfl 0 (by decide) (hts (.fieldLink RX4 7 "StoreSlopesModel" "now" "[I") (List.mem_of_getElem? (i := 2) rfl)) (fun _ h9 => h9) rfl dX4_keep_13 ?_
    refine lv_iconst (v := nI 0) hx hb dX4_keep_16 (by decide) ?_
    refine lv_aload_n hx hb dX4_keep_17 rfl (lv_at hl 0 rfl) ?_
    refine va_get (D := (dC, dI)) (ci := 4) (v := .ref m4) (C := RX4) (T := TX4) (N := 13) hx hb hts inX4 hown hK hP 0 rfl rfl 4 (by decide) (hts (.fieldLink RX4 19 "StoreSlopesModel" "image" "[I") (List.mem_of_getElem? (i := 3) rfl)) (fun _ h9 => h9) rfl dX4_keep_18 ?_
    refine lv_bipush (v := nI 93) hx hb dX4_keep_21 (by decide) ?_
    refine lv_iload_n hx hb dX4_keep_23 rfl (lv_at hl 1 rfl) ?_
    refine lv_imul hx hb dX4_keep_24 ?_
    refine tp_as (pk_mul 93 j_2) ?_
    refine lv_bipush (v := nI 93) hx hb dX4_keep_25 (by decide) ?_
    have hPc := hP.sub (ws' := [(m1, .inl (km1, 93, .inl nw)), (m4, .inl (km4, 186, .inl im))]) [1, 4] rfl
    have hKc := hK.sub (tys' := [(km1, .int), (km4, .int)]) [0, 3] rfl
    have hDc := hD.sub (ws' := [(m1, .inl (km1, 93, .inl nw)), (m4, .inl (km4, 186, .inl im))]) [1, 4] (by decide) rfl
    have hFc := va_free (wc := [(m1, .inl (km1, 93, .inl nw)), (m4, .inl (km4, 186, .inl im))]) hD hS hA [1, 4] rfl
    refine va_callv (va_runS (As := [.ref m1, .int (nI 0), .ref m4, .int (nI (93 * j_2)), .int (nI 93)]) (rest := []) ⟨hx, hb, hml, hown, hts⟩ (c_X4_bring l dC dI m1 m4 km1 km4 H.size 93 nw 186 im 0 (93 * j_2) 93  (by first | assumption | omega) (by first | assumption | omega) (by first | assumption | omega) (by first | assumption | omega)) (va_cwS 5 hts gX4_keep_X4_bring rfl rfl rfl (by decide +kernel) ⟨Nat.le_of_ble_eq_true rfl, Nat.le_of_ble_eq_true rfl⟩) ⟨fun a U g mk q => by obtain ⟨q0, q1, qP, qK, qD⟩ := q; exact ⟨q0, q1, qP, va_K.moved (u := U) (U := U.calling g mk a) (Vm.Alike.refl U.vm) qK, qD⟩, fun U hU hW => ⟨rfl, by rw [hU], by rw [hU]; exact hPc, va_K.moved hW.alike hKc, hDc.weaken (fun _ _ _ _ => trivial)⟩⟩ rfl rfl hl.1 rfl (lv_room (Nat.le_of_ble_eq_true rfl)) dX4_keep_27 ⟨Nat.le_of_ble_eq_true rfl, Nat.le_of_ble_eq_true rfl⟩) hS (fun q _ h => hFc q h) hFc (fun u9 t9 H1 locs ht hvm hw hB hz1 hk1 hS => ?_)
    refine W.widen (k := 0) (n := 0) (Nat.le_of_ble_eq_true rfl) (Nat.le_of_ble_eq_true rfl) ?_
    obtain ⟨⟩ := u9
    obtain ⟨gg_4, h_5, hP1, hK1, hD1⟩ := hB
    rw [ht] at hP1
    obtain ⟨hP, hD⟩ := va_join (wr := [(m0, .inr (4, [.ref m1, .ref m2, .int (nI bk), .ref m3, .ref m4, .ref m5, .ref m6, .int sd, .ref m7, .ref m8, .int cl, .int pc, .int op])), (m2, .inl (km2, 93, .inl ws)), (m3, .inl (km3, 3720, .inl bc)), (m5, .inl (km5, 2, .inl isd)), (m6, .inl (km6, 2, .inl kp)), (m7, .inl (km7, 1525, .inl vl)), (m8, .inl (km8, 24, .inl pl))]) (w1 := [(m1, .inl (km1, 93, .inl nw)), (m4, .inl (km4, 186, .inl gg_4))]) hP hD [1, 4] [0, 2, 3, 5, 6, 7, 8] rfl rfl (by decide) (by decide) hk1 hFc hP1 hD1
    clear hPc hDc hKc hFc hz1 hk1 ht hvm hP1 hK1 hD1 hw t9
    generalize H1 = H at hP hS ⊢
    have hP := hP.sub (ws' := [(m0, .inr (4, [.ref m1, .ref m2, .int (nI bk), .ref m3, .ref m4, .ref m5, .ref m6, .int sd, .ref m7, .ref m8, .int cl, .int pc, .int op])), (m1, .inl (km1, 93, .inl nw)), (m2, .inl (km2, 93, .inl ws)), (m3, .inl (km3, 3720, .inl bc)), (m4, .inl (km4, 186, .inl gg_4)), (m5, .inl (km5, 2, .inl isd)), (m6, .inl (km6, 2, .inl kp)), (m7, .inl (km7, 1525, .inl vl)), (m8, .inl (km8, 24, .inl pl))]) [0, 7, 1, 2, 8, 3, 4, 5, 6] rfl
    have hD := hD.sub (ws' := [(m0, .inr (4, [.ref m1, .ref m2, .int (nI bk), .ref m3, .ref m4, .ref m5, .ref m6, .int sd, .ref m7, .ref m8, .int cl, .int pc, .int op])), (m1, .inl (km1, 93, .inl nw)), (m2, .inl (km2, 93, .inl ws)), (m3, .inl (km3, 3720, .inl bc)), (m4, .inl (km4, 186, .inl gg_4)), (m5, .inl (km5, 2, .inl isd)), (m6, .inl (km6, 2, .inl kp)), (m7, .inl (km7, 1525, .inl vl)), (m8, .inl (km8, 24, .inl pl))]) [0, 7, 1, 2, 8, 3, 4, 5, 6] (by decide) rfl
    have hpt := okB_put i3 i1 h_5
    refine lv_aload_n hx hb dX4_keep_30 rfl (lv_at hl 0 rfl) ?_
    refine va_get (D := (dC, dI)) (ci := 4) (v := .ref m5) (C := RX4) (T := TX4) (N := 13) hx hb hts inX4 hown hK hP 0 rfl rfl 5 (by decide) (hts (.fieldLink RX4 22 "StoreSlopesModel" "imageSeed" "[I") (List.mem_of_getElem? (i := 4) rfl)) (fun _ h9 => h9) rfl dX4_keep_31 ?_
    refine lv_iload_n hx hb dX4_keep_34 rfl (lv_at hl 1 rfl) ?_
    refine lv_aload_n hx hb dX4_keep_35 rfl (lv_at hl 0 rfl) ?_
    refine va_get (D := (dC, dI)) (ci := 4) (v := .int sd) (C := RX4) (T := TX4) (N := 13) hx hb hts inX4 hown hK hP 0 rfl rfl 7 (by decide) (hts (.fieldLink RX4 140 "StoreSlopesModel" "seed" "I") (List.mem_of_getElem? (i := 5) rfl)) (fun _ h9 => h9) rfl dX4_keep_36 ?_
    refine va_iast hx hb hK hP hD hS 5 4 rfl rfl (vp_in_nI (show j_2 < 2 by omega) (by omega)) dX4_keep_39 (fun H locs hP hD hS => ?_)
    have hP : va_P (dC, dI) vwCl [(m0, .inr (4, [.ref m1, .ref m2, .int (nI bk), .ref m3, .ref m4, .ref m5, .ref m6, .int sd, .ref m7, .ref m8, .int cl, .int pc, .int op])), (m1, .inl (km1, 93, .inl nw)), (m2, .inl (km2, 93, .inl ws)), (m3, .inl (km3, 3720, .inl bc)), (m4, .inl (km4, 186, .inl gg_4)), (m5, .inl (km5, 2, .inl (upd isd (nI j_2).toNatClampNeg (sd)))), (m6, .inl (km6, 2, .inl kp)), (m7, .inl (km7, 1525, .inl vl)), (m8, .inl (km8, 24, .inl pl))] H := hP
    have hD : va_D A [(m0, .inr (4, [.ref m1, .ref m2, .int (nI bk), .ref m3, .ref m4, .ref m5, .ref m6, .int sd, .ref m7, .ref m8, .int cl, .int pc, .int op])), (m1, .inl (km1, 93, .inl nw)), (m2, .inl (km2, 93, .inl ws)), (m3, .inl (km3, 3720, .inl bc)), (m4, .inl (km4, 186, .inl gg_4)), (m5, .inl (km5, 2, .inl (upd isd (nI j_2).toNatClampNeg (sd)))), (m6, .inl (km6, 2, .inl kp)), (m7, .inl (km7, 1525, .inl vl)), (m8, .inl (km8, 24, .inl pl))] := hD
    generalize ef_6 : upd isd (nI j_2).toNatClampNeg (sd) = f_6 at hP hD
    clear ef_6
    refine lv_aload_n hx hb dX4_keep_40 rfl (lv_at hl 0 rfl) ?_
    refine va_get (D := (dC, dI)) (ci := 4) (v := .ref m6) (C := RX4) (T := TX4) (N := 13) hx hb hts inX4 hown hK hP 0 rfl rfl 6 (by decide) (hts (.fieldLink RX4 25 "StoreSlopesModel" "isKept" "[Z") (List.mem_of_getElem? (i := 6) rfl)) (fun _ h9 => h9) rfl dX4_keep_41 ?_
    refine lv_iload_n hx hb dX4_keep_44 rfl (lv_at hl 1 rfl) ?_
    refine lv_iconst (v := nI 1) hx hb dX4_keep_45 (by decide) ?_
    refine va_zast hx hb hK hP hD hS 6 5 rfl rfl (vp_in_nI (show j_2 < 2 by omega) (by omega)) dX4_keep_46 (fun H locs hP hD hS => ?_)
    have hP : va_P (dC, dI) vwCl [(m0, .inr (4, [.ref m1, .ref m2, .int (nI bk), .ref m3, .ref m4, .ref m5, .ref m6, .int sd, .ref m7, .ref m8, .int cl, .int pc, .int op])), (m1, .inl (km1, 93, .inl nw)), (m2, .inl (km2, 93, .inl ws)), (m3, .inl (km3, 3720, .inl bc)), (m4, .inl (km4, 186, .inl gg_4)), (m5, .inl (km5, 2, .inl f_6)), (m6, .inl (km6, 2, .inl (upd kp (nI j_2).toNatClampNeg (vp_nar .boolean (nI 1))))), (m7, .inl (km7, 1525, .inl vl)), (m8, .inl (km8, 24, .inl pl))] H := hP
    have hD : va_D A [(m0, .inr (4, [.ref m1, .ref m2, .int (nI bk), .ref m3, .ref m4, .ref m5, .ref m6, .int sd, .ref m7, .ref m8, .int cl, .int pc, .int op])), (m1, .inl (km1, 93, .inl nw)), (m2, .inl (km2, 93, .inl ws)), (m3, .inl (km3, 3720, .inl bc)), (m4, .inl (km4, 186, .inl gg_4)), (m5, .inl (km5, 2, .inl f_6)), (m6, .inl (km6, 2, .inl (upd kp (nI j_2).toNatClampNeg (vp_nar .boolean (nI 1))))), (m7, .inl (km7, 1525, .inl vl)), (m8, .inl (km8, 24, .inl pl))] := hD
    generalize ef_7 : upd kp (nI j_2).toNatClampNeg (vp_nar .boolean (nI 1)) = f_7 at hP hD
    refine lv_aload_n hx hb dX4_keep_47 rfl (lv_at hl 0 rfl) ?_
    refine lv_iconst (v := nI 0) hx hb dX4_keep_48 (by decide) ?_
    refine va_put (D := (dC, dI)) (ci := 4) (v := .int (nI 0)) (ty := .int) (C := RX4) (T := TX4) (N := 13) hx hb hts inX4 tyX4 tyX4_ok nmX4 hown hK hP hD hS 0 rfl rfl 2 (by decide) (hts (.fieldLink RX4 99 "StoreSlopesModel" "backs" "I") (List.mem_of_getElem? (i := 7) rfl)) (fun _ h9 => h9) rfl (by decide +kernel) rfl rfl (Nat.le_of_ble_eq_true rfl) dX4_keep_49 (fun H locs hP hD hS => ?_)
    have hP : va_P (dC, dI) vwCl [(m0, .inr (4, [.ref m1, .ref m2, .int (nI 0), .ref m3, .ref m4, .ref m5, .ref m6, .int sd, .ref m7, .ref m8, .int cl, .int pc, .int op])), (m1, .inl (km1, 93, .inl nw)), (m2, .inl (km2, 93, .inl ws)), (m3, .inl (km3, 3720, .inl bc)), (m4, .inl (km4, 186, .inl gg_4)), (m5, .inl (km5, 2, .inl f_6)), (m6, .inl (km6, 2, .inl f_7)), (m7, .inl (km7, 1525, .inl vl)), (m8, .inl (km8, 24, .inl pl))] H := hP
    have hD : va_D A [(m0, .inr (4, [.ref m1, .ref m2, .int (nI 0), .ref m3, .ref m4, .ref m5, .ref m6, .int sd, .ref m7, .ref m8, .int cl, .int pc, .int op])), (m1, .inl (km1, 93, .inl nw)), (m2, .inl (km2, 93, .inl ws)), (m3, .inl (km3, 3720, .inl bc)), (m4, .inl (km4, 186, .inl gg_4)), (m5, .inl (km5, 2, .inl f_6)), (m6, .inl (km6, 2, .inl f_7)), (m7, .inl (km7, 1525, .inl vl)), (m8, .inl (km8, 24, .inl pl))] := hD
    refine lv_iconst (v := nI 1) hx hb dX4_keep_52 (by decide) ?_
    subst hQe
    have hP9 := hP.sub (ws' := [(m0, .inr (4, [.ref m1, .ref m2, .int (nI 0), .ref m3, .ref m4, .ref m5, .ref m6, .int sd, .ref m7, .ref m8, .int cl, .int pc, .int op])), (m1, .inl (km1, 93, .inl nw)), (m2, .inl (km2, 93, .inl ws)), (m3, .inl (km3, 3720, .inl bc)), (m4, .inl (km4, 186, .inl gg_4)), (m5, .inl (km5, 2, .inl f_6)), (m6, .inl (km6, 2, .inl f_7)), (m7, .inl (km7, 1525, .inl vl)), (m8, .inl (km8, 24, .inl pl))]) [0, 1, 2, 3, 4, 5, 6, 7, 8] rfl
    have hD9 := hD.sub (ws' := [(m0, .inr (4, [.ref m1, .ref m2, .int (nI 0), .ref m3, .ref m4, .ref m5, .ref m6, .int sd, .ref m7, .ref m8, .int cl, .int pc, .int op])), (m1, .inl (km1, 93, .inl nw)), (m2, .inl (km2, 93, .inl ws)), (m3, .inl (km3, 3720, .inl bc)), (m4, .inl (km4, 186, .inl gg_4)), (m5, .inl (km5, 2, .inl f_6)), (m6, .inl (km6, 2, .inl f_7)), (m7, .inl (km7, 1525, .inl vl)), (m8, .inl (km8, 24, .inl pl))]) [0, 1, 2, 3, 4, 5, 6, 7, 8] (by decide) rfl
    have hK9 := hK.sub (tys' := [(km1, .int), (km2, .int), (km3, .int), (km4, .int), (km5, .int), (km6, .boolean), (km7, .int), (km8, .int)]) [0, 1, 2, 3, 4, 5, 6, 7] rfl
    subst hAe
    exact W.iret (v := (nI 1)) hx hb hr (fun t ht hW => ⟨⟨_, _, rfl, rfl, 0, sd, cl, pc, op, nw, ws, bc, gg_4, f_6, vl, pl, f_7, (by first | assumption | omega), (by first | assumption | omega), (by first | assumption | omega), (by first | assumption | omega), (by first | assumption | omega), ((if_pos (im_in (show j_2 < 2 by omega))).symm : nI 1 = kpRes (nI j_2)), (by rw [← ef_7, show vp_nar .boolean (nI 1) = 1 from by decide]; exact (if_pos (im_in (show j_2 < 2 by omega))).symm), by rw [ht]; exact hP9, va_K.moved hW.alike hK9, hD9⟩, hS.F ht⟩) hS.2.2 dX4_keep_53
  · have nc_6 := b_0 wr_1 c_6
    refine lv_ldc (own := RX4) (v := (-1000000001)) hx hb hown (hts (.constant RX4 109 (-1000000001)) (List.mem_of_getElem? (i := 1) rfl)) dX4_keep_9 ?_
    subst hQe
    have hP9 := hP.sub (ws' := [(m0, .inr (4, [.ref m1, .ref m2, .int (nI bk), .ref m3, .ref m4, .ref m5, .ref m6, .int sd, .ref m7, .ref m8, .int cl, .int pc, .int op])), (m1, .inl (km1, 93, .inl nw)), (m2, .inl (km2, 93, .inl ws)), (m3, .inl (km3, 3720, .inl bc)), (m4, .inl (km4, 186, .inl im)), (m5, .inl (km5, 2, .inl isd)), (m6, .inl (km6, 2, .inl kp)), (m7, .inl (km7, 1525, .inl vl)), (m8, .inl (km8, 24, .inl pl))]) [0, 1, 2, 3, 4, 5, 6, 7, 8] rfl
    have hD9 := hD.sub (ws' := [(m0, .inr (4, [.ref m1, .ref m2, .int (nI bk), .ref m3, .ref m4, .ref m5, .ref m6, .int sd, .ref m7, .ref m8, .int cl, .int pc, .int op])), (m1, .inl (km1, 93, .inl nw)), (m2, .inl (km2, 93, .inl ws)), (m3, .inl (km3, 3720, .inl bc)), (m4, .inl (km4, 186, .inl im)), (m5, .inl (km5, 2, .inl isd)), (m6, .inl (km6, 2, .inl kp)), (m7, .inl (km7, 1525, .inl vl)), (m8, .inl (km8, 24, .inl pl))]) [0, 1, 2, 3, 4, 5, 6, 7, 8] (by decide) rfl
    have hK9 := hK.sub (tys' := [(km1, .int), (km2, .int), (km3, .int), (km4, .int), (km5, .int), (km6, .boolean), (km7, .int), (km8, .int)]) [0, 1, 2, 3, 4, 5, 6, 7] rfl
    subst hAe
    exact W.iret (v := ((-1000000001))) hx hb hr (fun t ht hW => ⟨⟨_, _, rfl, rfl, bk, sd, cl, pc, op, nw, ws, bc, im, isd, vl, pl, kp, (by first | assumption | omega), (by first | assumption | omega), (by first | assumption | omega), (by first | assumption | omega), (by first | assumption | omega), (if_neg (im_out2 nc_6)).symm, (if_neg (im_out2 nc_6)).symm, by rw [ht]; exact hP9, va_K.moved hW.alike hK9, hD9⟩, hS.F ht⟩) hS.2.2 dX4_keep_11
set_option maxHeartbeats 4000000 in
set_option maxRecDepth 100000 in
theorem c_X4_goBack (l : Launch) (dC : Nat → ClassId) (dI : Nat → Nat → Nat) (m0 m1 m2 m3 m4 m5 m6 m7 m8 : Nat) (km1 km2 km3 km4 km5 km6 km7 km8 : ClassId) (sz : Nat) (bk : Nat) (sd : Int32) (cl : Int32) (pc : Int32) (op : Int32) (nw : Nat → Int32) (ws : Nat → Int32) (bc : Nat → Int32) (im : Nat → Int32) (isd : Nat → Int32) (kp : Nat → Int32) (vl : Nat → Int32) (pl : Nat → Int32) (i : Int32) (i0 : bk ≤ 40) (i1 : okN nw) (i2 : okB 40 bc) (i3 : okB 2 im) (i4 : bdA 60 24 pl) : Met l yX4_goBack wsX4_goBack ({ frames := 1, cells := 0, slots := 0, locals := 25 }) (va_Pc [.ref m0, .int i] (fun U => U.heap.size = sz ∧ va_P (dC, dI) vwCl [(m0, .inr (4, [.ref m1, .ref m2, .int (nI bk), .ref m3, .ref m4, .ref m5, .ref m6, .int sd, .ref m7, .ref m8, .int cl, .int pc, .int op])), (m1, .inl (km1, 93, .inl nw)), (m2, .inl (km2, 93, .inl ws)), (m3, .inl (km3, 3720, .inl bc)), (m4, .inl (km4, 186, .inl im)), (m5, .inl (km5, 2, .inl isd)), (m6, .inl (km6, 2, .inl kp)), (m7, .inl (km7, 1525, .inl vl)), (m8, .inl (km8, 24, .inl pl))] U.heap ∧ va_K (dC, dI) vwCl [(km1, .int), (km2, .int), (km3, .int), (km4, .int), (km5, .int), (km6, .boolean), (km7, .int), (km8, .int)] U ∧ va_D (fun _ => True) [(m0, .inr (4, [.ref m1, .ref m2, .int (nI bk), .ref m3, .ref m4, .ref m5, .ref m6, .int sd, .ref m7, .ref m8, .int cl, .int pc, .int op])), (m1, .inl (km1, 93, .inl nw)), (m2, .inl (km2, 93, .inl ws)), (m3, .inl (km3, 3720, .inl bc)), (m4, .inl (km4, 186, .inl im)), (m5, .inl (km5, 2, .inl isd)), (m6, .inl (km6, 2, .inl kp)), (m7, .inl (km7, 1525, .inl vl)), (m8, .inl (km8, 24, .inl pl))])) (va_Qi (fun (r u : Int32) => u = r) (fun r t => ∃ (bk' : Nat) (sd' : Int32) (cl' : Int32) (pc' : Int32) (op' : Int32) (nw' : Nat → Int32) (ws' : Nat → Int32) (bc' : Nat → Int32) (im' : Nat → Int32) (isd' : Nat → Int32) (vl' : Nat → Int32) (pl' : Nat → Int32), bk' ≤ 40 ∧ okN nw' ∧ okB 40 bc' ∧ okB 2 im' ∧ bdA 60 24 pl' ∧ r = gbRes i kp ∧ va_P (dC, dI) vwCl [(m0, .inr (4, [.ref m1, .ref m2, .int (nI bk'), .ref m3, .ref m4, .ref m5, .ref m6, .int sd', .ref m7, .ref m8, .int cl', .int pc', .int op'])), (m1, .inl (km1, 93, .inl nw')), (m2, .inl (km2, 93, .inl ws')), (m3, .inl (km3, 3720, .inl bc')), (m4, .inl (km4, 186, .inl im')), (m5, .inl (km5, 2, .inl isd')), (m6, .inl (km6, 2, .inl kp)), (m7, .inl (km7, 1525, .inl vl')), (m8, .inl (km8, 24, .inl pl'))] t.heap ∧ va_K (dC, dI) vwCl [(km1, .int), (km2, .int), (km3, .int), (km4, .int), (km5, .int), (km6, .boolean), (km7, .int), (km8, .int)] t ∧ va_D (va_A [(m0, .inr (4, [.ref m1, .ref m2, .int (nI bk), .ref m3, .ref m4, .ref m5, .ref m6, .int sd, .ref m7, .ref m8, .int cl, .int pc, .int op])), (m1, .inl (km1, 93, .inl nw)), (m2, .inl (km2, 93, .inl ws)), (m3, .inl (km3, 3720, .inl bc)), (m4, .inl (km4, 186, .inl im)), (m5, .inl (km5, 2, .inl isd)), (m6, .inl (km6, 2, .inl kp)), (m7, .inl (km7, 1525, .inl vl)), (m8, .inl (km8, 24, .inl pl))] sz) [(m0, .inr (4, [.ref m1, .ref m2, .int (nI bk'), .ref m3, .ref m4, .ref m5, .ref m6, .int sd', .ref m7, .ref m8, .int cl', .int pc', .int op'])), (m1, .inl (km1, 93, .inl nw')), (m2, .inl (km2, 93, .inl ws')), (m3, .inl (km3, 3720, .inl bc')), (m4, .inl (km4, 186, .inl im')), (m5, .inl (km5, 2, .inl isd')), (m6, .inl (km6, 2, .inl kp)), (m7, .inl (km7, 1525, .inl vl')), (m8, .inl (km8, 24, .inl pl'))]) (va_A [(m0, .inr (4, [.ref m1, .ref m2, .int (nI bk), .ref m3, .ref m4, .ref m5, .ref m6, .int sd, .ref m7, .ref m8, .int cl, .int pc, .int op])), (m1, .inl (km1, 93, .inl nw)), (m2, .inl (km2, 93, .inl ws)), (m3, .inl (km3, 3720, .inl bc)), (m4, .inl (km4, 186, .inl im)), (m5, .inl (km5, 2, .inl isd)), (m6, .inl (km6, 2, .inl kp)), (m7, .inl (km7, 1525, .inl vl)), (m8, .inl (km8, 24, .inl pl))] sz)) 0 0 (va_A [(m0, .inr (4, [.ref m1, .ref m2, .int (nI bk), .ref m3, .ref m4, .ref m5, .ref m6, .int sd, .ref m7, .ref m8, .int cl, .int pc, .int op])), (m1, .inl (km1, 93, .inl nw)), (m2, .inl (km2, 93, .inl ws)), (m3, .inl (km3, 3720, .inl bc)), (m4, .inl (km4, 186, .inl im)), (m5, .inl (km5, 2, .inl isd)), (m6, .inl (km6, 2, .inl kp)), (m7, .inl (km7, 1525, .inl vl)), (m8, .inl (km8, 24, .inl pl))] sz) := by
  refine Met.ofW (cc := cX4_goBack) (maxL := 2) (ret := (some .int)) (by decide) rfl ?_
  intro p e s m args below meth c s₁ B hml hv
  obtain ⟨rfl, hsz, hP, hK, hD0⟩ := hv
  have hx := B.exec
  have hb := B.bytes
  have hr := B.returns
  have hts := atoms_spec (ws := wsX4_goBack) B.pre
  have hown : s.vm.findClass RX4 = some m.cls := findClass_of_methodNamed B.named
  have hlocks := B.notSynchronized
  have inX4 : ∀ w ∈ wsX40, w ∈ wsX4_goBack := fun _ h => List.mem_cons_of_mem _ (List.mem_append_right _ h)
  subst hsz
  have hD := hD0.self (sz := s.heap.size)
  generalize hAe : va_A [(m0, .inr (4, [.ref m1, .ref m2, .int (nI bk), .ref m3, .ref m4, .ref m5, .ref m6, .int sd, .ref m7, .ref m8, .int cl, .int pc, .int op])), (m1, .inl (km1, 93, .inl nw)), (m2, .inl (km2, 93, .inl ws)), (m3, .inl (km3, 3720, .inl bc)), (m4, .inl (km4, 186, .inl im)), (m5, .inl (km5, 2, .inl isd)), (m6, .inl (km6, 2, .inl kp)), (m7, .inl (km7, 1525, .inl vl)), (m8, .inl (km8, 24, .inl pl))] s.heap.size = A at hD ⊢
  have hA : ∀ q : Nat, s.heap.size ≤ q → A q := fun q h => by rw [← hAe]; exact Or.inr h
  have hS : va_S A s.heap s.heap [] := va_S.rf
  have hl := lv_entry ([.ref m0, .int i]) (n := 2) (Nat.le_of_ble_eq_true rfl)
  rw [lg_entry_eq]
  generalize (lg_sl ([.ref m0, .int i]) ++ List.replicate (2 - (lg_sl ([.ref m0, .int i])).length) Slot.unset).toArray = ls at hl ⊢
  generalize hQe : MQ below _ _ s 0 0 _ = Q
  generalize ([.ref m0, .int i] : List Value).toArray = args at hts hQe ⊢
  have hl : lv_has ls 2 [(0, .ref m0), (1, .int i)] := hl
  refine lv_iload_n hx hb dX4_goBack_0 rfl (lv_at hl 1 rfl) ?_
  refine lv_iconst (v := nI 0) hx hb dX4_goBack_1 (by decide) ?_
  refine lv_iconst (v := nI 1) hx hb dX4_goBack_2 (by decide) ?_
  refine va_calli (va_runS (As := [.int i, .int (nI 0), .int (nI 1)]) (rest := []) ⟨hx, hb, hml, hown, hts⟩ (c_X4_in l dC dI   i (nI 0) (nI 1)  ) (va_cwS 3 hts gX4_goBack_X4_in rfl rfl rfl (by decide +kernel) ⟨Nat.le_of_ble_eq_true rfl, Nat.le_of_ble_eq_true rfl⟩) ⟨fun a U g mk q => q, fun U hU hW => ⟨rfl, trivial⟩⟩ rfl rfl hl.1 rfl (lv_room (Nat.le_of_ble_eq_true rfl)) dX4_goBack_3 ⟨Nat.le_of_ble_eq_true rfl, Nat.le_of_ble_eq_true rfl⟩) hS (fun q _ h => h.elim) (fun q h => h.elim) (fun r_1 u9 t9 H1 locs ht hvm hw hB hz1 hk1 hS => ?_)
  refine W.widen (k := 0) (n := 0) (Nat.le_of_ble_eq_true rfl) (Nat.le_of_ble_eq_true rfl) ?_
  have hP := hP.kept (H1 := H1) (fun k q hk => hk1 q.1 (hP k q hk).lt (fun h => h))
  clear hz1 hk1 hB ht hvm t9
  generalize H1 = H at hP hS ⊢
  have hP : va_P (dC, dI) vwCl [(m0, .inr (4, [.ref m1, .ref m2, .int (nI bk), .ref m3, .ref m4, .ref m5, .ref m6, .int sd, .ref m7, .ref m8, .int cl, .int pc, .int op])), (m1, .inl (km1, 93, .inl nw)), (m2, .inl (km2, 93, .inl ws)), (m3, .inl (km3, 3720, .inl bc)), (m4, .inl (km4, 186, .inl im)), (m5, .inl (km5, 2, .inl isd)), (m6, .inl (km6, 2, .inl kp)), (m7, .inl (km7, 1525, .inl vl)), (m8, .inl (km8, 24, .inl pl))] H := hP
  have wr_1 := hw
  clear hw
  refine lv_if_ne (tgt := 12) hx hb dX4_goBack_6 (by decide) (fun c_6 => ?_) (fun c_6 => ?_)
  · obtain ⟨j_2, hj_2, rfl⟩ := rg_0 (by decide) (b_1 wr_1 c_6)
    refine lv_aload_n hx hb dX4_goBack_12 rfl (lv_at hl 0 rfl) ?_
    refine va_get (D := (dC, dI)) (ci := 4) (v := .ref m6) (C := RX4) (T := TX4) (N := 13) hx hb hts inX4 hown hK hP 0 rfl rfl 6 (by decide) (hts (.fieldLink RX4 25 "StoreSlopesModel" "isKept" "[Z") (List.mem_of_getElem? (i := 2) rfl)) (fun _ h9 => h9) rfl dX4_goBack_13 ?_
    refine lv_iload_n hx hb dX4_goBack_16 rfl (lv_at hl 1 rfl) ?_
    refine va_zald hx hb hK hP 6 5 rfl rfl (vp_in_nI (show j_2 < 2 by omega) (by omega)) dX4_goBack_17 ?_
    refine lv_topi (fun y_3 ey_3 => ?_)
    refine lv_if_ne (tgt := 24) hx hb dX4_goBack_18 (by decide) (fun c_18 => ?_) (fun c_18 => ?_)
    · refine lv_aload_n hx hb dX4_goBack_24 rfl (lv_at hl 0 rfl) ?_
      refine va_get (D := (dC, dI)) (ci := 4) (v := .ref m4) (C := RX4) (T := TX4) (N := 13) hx hb hts inX4 hown hK hP 0 rfl rfl 4 (by decide) (hts (.fieldLink RX4 19 "StoreSlopesModel" "image" "[I") (List.mem_of_getElem? (i := 4) rfl)) (fun _ h9 => h9) rfl dX4_goBack_25 ?_
      refine lv_bipush (v := nI 93) hx hb dX4_goBack_28 (by decide) ?_
      refine lv_iload_n hx hb dX4_goBack_30 rfl (lv_at hl 1 rfl) ?_
      refine lv_imul hx hb dX4_goBack_31 ?_
      refine tp_as (pk_mul 93 j_2) ?_
      refine lv_aload_n hx hb dX4_goBack_32 rfl (lv_at hl 0 rfl) ?_
      refine va_get (D := (dC, dI)) (ci := 4) (v := .ref m1) (C := RX4) (T := TX4) (N := 13) hx hb hts inX4 hown hK hP 0 rfl rfl 0 (by decide) (hts (.fieldLink RX4 7 "StoreSlopesModel" "now" "[I") (List.mem_of_getElem? (i := 5) rfl)) (fun _ h9 => h9) rfl dX4_goBack_33 ?_
      refine lv_iconst (v := nI 0) hx hb dX4_goBack_36 (by decide) ?_
      refine lv_bipush (v := nI 93) hx hb dX4_goBack_37 (by decide) ?_
      have hPc := hP.sub (ws' := [(m4, .inl (km4, 186, .inl im)), (m1, .inl (km1, 93, .inl nw))]) [4, 1] rfl
      have hKc := hK.sub (tys' := [(km4, .int), (km1, .int)]) [3, 0] rfl
      have hDc := hD.sub (ws' := [(m4, .inl (km4, 186, .inl im)), (m1, .inl (km1, 93, .inl nw))]) [4, 1] (by decide) rfl
      have hFc := va_free (wc := [(m4, .inl (km4, 186, .inl im)), (m1, .inl (km1, 93, .inl nw))]) hD hS hA [4, 1] rfl
      refine va_callv (va_runS (As := [.ref m4, .int (nI (93 * j_2)), .ref m1, .int (nI 0), .int (nI 93)]) (rest := []) ⟨hx, hb, hml, hown, hts⟩ (c_X4_bring l dC dI m4 m1 km4 km1 H.size 186 im 93 nw (93 * j_2) 0 93  (by first | assumption | omega) (by first | assumption | omega) (by first | assumption | omega) (by first | assumption | omega)) (va_cwS 5 hts gX4_goBack_X4_bring rfl rfl rfl (by decide +kernel) ⟨Nat.le_of_ble_eq_true rfl, Nat.le_of_ble_eq_true rfl⟩) ⟨fun a U g mk q => by obtain ⟨q0, q1, qP, qK, qD⟩ := q; exact ⟨q0, q1, qP, va_K.moved (u := U) (U := U.calling g mk a) (Vm.Alike.refl U.vm) qK, qD⟩, fun U hU hW => ⟨rfl, by rw [hU], by rw [hU]; exact hPc, va_K.moved hW.alike hKc, hDc.weaken (fun _ _ _ _ => trivial)⟩⟩ rfl rfl hl.1 rfl (lv_room (Nat.le_of_ble_eq_true rfl)) dX4_goBack_39 ⟨Nat.le_of_ble_eq_true rfl, Nat.le_of_ble_eq_true rfl⟩) hS (fun q _ h => hFc q h) hFc (fun u9 t9 H1 locs ht hvm hw hB hz1 hk1 hS => ?_)
      refine W.widen (k := 0) (n := 0) (Nat.le_of_ble_eq_true rfl) (Nat.le_of_ble_eq_true rfl) ?_
      obtain ⟨⟩ := u9
      obtain ⟨gg_5, h_6, hP1, hK1, hD1⟩ := hB
      rw [ht] at hP1
      obtain ⟨hP, hD⟩ := va_join (wr := [(m0, .inr (4, [.ref m1, .ref m2, .int (nI bk), .ref m3, .ref m4, .ref m5, .ref m6, .int sd, .ref m7, .ref m8, .int cl, .int pc, .int op])), (m2, .inl (km2, 93, .inl ws)), (m3, .inl (km3, 3720, .inl bc)), (m5, .inl (km5, 2, .inl isd)), (m6, .inl (km6, 2, .inl kp)), (m7, .inl (km7, 1525, .inl vl)), (m8, .inl (km8, 24, .inl pl))]) (w1 := [(m4, .inl (km4, 186, .inl im)), (m1, .inl (km1, 93, .inl gg_5))]) hP hD [4, 1] [0, 2, 3, 5, 6, 7, 8] rfl rfl (by decide) (by decide) hk1 hFc hP1 hD1
      clear hPc hDc hKc hFc hz1 hk1 ht hvm hP1 hK1 hD1 hw t9
      generalize H1 = H at hP hS ⊢
      have hP := hP.sub (ws' := [(m0, .inr (4, [.ref m1, .ref m2, .int (nI bk), .ref m3, .ref m4, .ref m5, .ref m6, .int sd, .ref m7, .ref m8, .int cl, .int pc, .int op])), (m1, .inl (km1, 93, .inl gg_5)), (m2, .inl (km2, 93, .inl ws)), (m3, .inl (km3, 3720, .inl bc)), (m4, .inl (km4, 186, .inl im)), (m5, .inl (km5, 2, .inl isd)), (m6, .inl (km6, 2, .inl kp)), (m7, .inl (km7, 1525, .inl vl)), (m8, .inl (km8, 24, .inl pl))]) [0, 8, 1, 2, 7, 3, 4, 5, 6] rfl
      have hD := hD.sub (ws' := [(m0, .inr (4, [.ref m1, .ref m2, .int (nI bk), .ref m3, .ref m4, .ref m5, .ref m6, .int sd, .ref m7, .ref m8, .int cl, .int pc, .int op])), (m1, .inl (km1, 93, .inl gg_5)), (m2, .inl (km2, 93, .inl ws)), (m3, .inl (km3, 3720, .inl bc)), (m4, .inl (km4, 186, .inl im)), (m5, .inl (km5, 2, .inl isd)), (m6, .inl (km6, 2, .inl kp)), (m7, .inl (km7, 1525, .inl vl)), (m8, .inl (km8, 24, .inl pl))]) [0, 8, 1, 2, 7, 3, 4, 5, 6] (by decide) rfl
      have hokg : okN gg_5 := okN_cpy (i3 j_2 (by omega)) h_6
      refine lv_aload_n hx hb dX4_goBack_42 rfl (lv_at hl 0 rfl) ?_
      refine lv_aload_n hx hb dX4_goBack_43 rfl (lv_at hl 0 rfl) ?_
      refine va_get (D := (dC, dI)) (ci := 4) (v := .ref m5) (C := RX4) (T := TX4) (N := 13) hx hb hts inX4 hown hK hP 0 rfl rfl 5 (by decide) (hts (.fieldLink RX4 22 "StoreSlopesModel" "imageSeed" "[I") (List.mem_of_getElem? (i := 6) rfl)) (fun _ h9 => h9) rfl dX4_goBack_44 ?_
      refine lv_iload_n hx hb dX4_goBack_47 rfl (lv_at hl 1 rfl) ?_
      refine va_iald hx hb hK hP 5 4 rfl rfl (vp_in_nI (show j_2 < 2 by omega) (by omega)) dX4_goBack_48 ?_
      refine tp_any (fun y_7 => ?_)
      refine va_put (D := (dC, dI)) (ci := 4) (v := .int y_7) (ty := .int) (C := RX4) (T := TX4) (N := 13) hx hb hts inX4 tyX4 tyX4_ok nmX4 hown hK hP hD hS 0 rfl rfl 7 (by decide) (hts (.fieldLink RX4 140 "StoreSlopesModel" "seed" "I") (List.mem_of_getElem? (i := 7) rfl)) (fun _ h9 => h9) rfl (by decide +kernel) rfl rfl (Nat.le_of_ble_eq_true rfl) dX4_goBack_49 (fun H locs hP hD hS => ?_)
      have hP : va_P (dC, dI) vwCl [(m0, .inr (4, [.ref m1, .ref m2, .int (nI bk), .ref m3, .ref m4, .ref m5, .ref m6, .int y_7, .ref m7, .ref m8, .int cl, .int pc, .int op])), (m1, .inl (km1, 93, .inl gg_5)), (m2, .inl (km2, 93, .inl ws)), (m3, .inl (km3, 3720, .inl bc)), (m4, .inl (km4, 186, .inl im)), (m5, .inl (km5, 2, .inl isd)), (m6, .inl (km6, 2, .inl kp)), (m7, .inl (km7, 1525, .inl vl)), (m8, .inl (km8, 24, .inl pl))] H := hP
      have hD : va_D A [(m0, .inr (4, [.ref m1, .ref m2, .int (nI bk), .ref m3, .ref m4, .ref m5, .ref m6, .int y_7, .ref m7, .ref m8, .int cl, .int pc, .int op])), (m1, .inl (km1, 93, .inl gg_5)), (m2, .inl (km2, 93, .inl ws)), (m3, .inl (km3, 3720, .inl bc)), (m4, .inl (km4, 186, .inl im)), (m5, .inl (km5, 2, .inl isd)), (m6, .inl (km6, 2, .inl kp)), (m7, .inl (km7, 1525, .inl vl)), (m8, .inl (km8, 24, .inl pl))] := hD
      refine lv_aload_n hx hb dX4_goBack_52 rfl (lv_at hl 0 rfl) ?_
      refine lv_iconst (v := nI 0) hx hb dX4_goBack_53 (by decide) ?_
      refine va_put (D := (dC, dI)) (ci := 4) (v := .int (nI 0)) (ty := .int) (C := RX4) (T := TX4) (N := 13) hx hb hts inX4 tyX4 tyX4_ok nmX4 hown hK hP hD hS 0 rfl rfl 2 (by decide) (hts (.fieldLink RX4 99 "StoreSlopesModel" "backs" "I") (List.mem_of_getElem? (i := 8) rfl)) (fun _ h9 => h9) rfl (by decide +kernel) rfl rfl (Nat.le_of_ble_eq_true rfl) dX4_goBack_54 (fun H locs hP hD hS => ?_)
      have hP : va_P (dC, dI) vwCl [(m0, .inr (4, [.ref m1, .ref m2, .int (nI 0), .ref m3, .ref m4, .ref m5, .ref m6, .int y_7, .ref m7, .ref m8, .int cl, .int pc, .int op])), (m1, .inl (km1, 93, .inl gg_5)), (m2, .inl (km2, 93, .inl ws)), (m3, .inl (km3, 3720, .inl bc)), (m4, .inl (km4, 186, .inl im)), (m5, .inl (km5, 2, .inl isd)), (m6, .inl (km6, 2, .inl kp)), (m7, .inl (km7, 1525, .inl vl)), (m8, .inl (km8, 24, .inl pl))] H := hP
      have hD : va_D A [(m0, .inr (4, [.ref m1, .ref m2, .int (nI 0), .ref m3, .ref m4, .ref m5, .ref m6, .int y_7, .ref m7, .ref m8, .int cl, .int pc, .int op])), (m1, .inl (km1, 93, .inl gg_5)), (m2, .inl (km2, 93, .inl ws)), (m3, .inl (km3, 3720, .inl bc)), (m4, .inl (km4, 186, .inl im)), (m5, .inl (km5, 2, .inl isd)), (m6, .inl (km6, 2, .inl kp)), (m7, .inl (km7, 1525, .inl vl)), (m8, .inl (km8, 24, .inl pl))] := hD
      refine lv_iconst (v := nI 1) hx hb dX4_goBack_57 (by decide) ?_
      subst hQe
      have hP9 := hP.sub (ws' := [(m0, .inr (4, [.ref m1, .ref m2, .int (nI 0), .ref m3, .ref m4, .ref m5, .ref m6, .int y_7, .ref m7, .ref m8, .int cl, .int pc, .int op])), (m1, .inl (km1, 93, .inl gg_5)), (m2, .inl (km2, 93, .inl ws)), (m3, .inl (km3, 3720, .inl bc)), (m4, .inl (km4, 186, .inl im)), (m5, .inl (km5, 2, .inl isd)), (m6, .inl (km6, 2, .inl kp)), (m7, .inl (km7, 1525, .inl vl)), (m8, .inl (km8, 24, .inl pl))]) [0, 1, 2, 3, 4, 5, 6, 7, 8] rfl
      have hD9 := hD.sub (ws' := [(m0, .inr (4, [.ref m1, .ref m2, .int (nI 0), .ref m3, .ref m4, .ref m5, .ref m6, .int y_7, .ref m7, .ref m8, .int cl, .int pc, .int op])), (m1, .inl (km1, 93, .inl gg_5)), (m2, .inl (km2, 93, .inl ws)), (m3, .inl (km3, 3720, .inl bc)), (m4, .inl (km4, 186, .inl im)), (m5, .inl (km5, 2, .inl isd)), (m6, .inl (km6, 2, .inl kp)), (m7, .inl (km7, 1525, .inl vl)), (m8, .inl (km8, 24, .inl pl))]) [0, 1, 2, 3, 4, 5, 6, 7, 8] (by decide) rfl
      have hK9 := hK.sub (tys' := [(km1, .int), (km2, .int), (km3, .int), (km4, .int), (km5, .int), (km6, .boolean), (km7, .int), (km8, .int)]) [0, 1, 2, 3, 4, 5, 6, 7] rfl
      subst hAe
      exact W.iret (v := (nI 1)) hx hb hr (fun t ht hW => ⟨⟨_, _, rfl, rfl, 0, y_7, cl, pc, op, gg_5, ws, bc, im, isd, vl, pl, (by first | assumption | omega), (by first | assumption | omega), (by first | assumption | omega), (by first | assumption | omega), (by first | assumption | omega), (by rw [gbRes, if_pos (im_in (show j_2 < 2 by omega)), if_neg (by rw [← ey_3]; exact c_18)]; rfl), by rw [ht]; exact hP9, va_K.moved hW.alike hK9, hD9⟩, hS.F ht⟩) hS.2.2 dX4_goBack_58
    · refine lv_ldc (own := RX4) (v := (-1000000003)) hx hb hown (hts (.constant RX4 139 (-1000000003)) (List.mem_of_getElem? (i := 3) rfl)) dX4_goBack_21 ?_
      subst hQe
      have hP9 := hP.sub (ws' := [(m0, .inr (4, [.ref m1, .ref m2, .int (nI bk), .ref m3, .ref m4, .ref m5, .ref m6, .int sd, .ref m7, .ref m8, .int cl, .int pc, .int op])), (m1, .inl (km1, 93, .inl nw)), (m2, .inl (km2, 93, .inl ws)), (m3, .inl (km3, 3720, .inl bc)), (m4, .inl (km4, 186, .inl im)), (m5, .inl (km5, 2, .inl isd)), (m6, .inl (km6, 2, .inl kp)), (m7, .inl (km7, 1525, .inl vl)), (m8, .inl (km8, 24, .inl pl))]) [0, 1, 2, 3, 4, 5, 6, 7, 8] rfl
      have hD9 := hD.sub (ws' := [(m0, .inr (4, [.ref m1, .ref m2, .int (nI bk), .ref m3, .ref m4, .ref m5, .ref m6, .int sd, .ref m7, .ref m8, .int cl, .int pc, .int op])), (m1, .inl (km1, 93, .inl nw)), (m2, .inl (km2, 93, .inl ws)), (m3, .inl (km3, 3720, .inl bc)), (m4, .inl (km4, 186, .inl im)), (m5, .inl (km5, 2, .inl isd)), (m6, .inl (km6, 2, .inl kp)), (m7, .inl (km7, 1525, .inl vl)), (m8, .inl (km8, 24, .inl pl))]) [0, 1, 2, 3, 4, 5, 6, 7, 8] (by decide) rfl
      have hK9 := hK.sub (tys' := [(km1, .int), (km2, .int), (km3, .int), (km4, .int), (km5, .int), (km6, .boolean), (km7, .int), (km8, .int)]) [0, 1, 2, 3, 4, 5, 6, 7] rfl
      subst hAe
      exact W.iret (v := ((-1000000003))) hx hb hr (fun t ht hW => ⟨⟨_, _, rfl, rfl, bk, sd, cl, pc, op, nw, ws, bc, im, isd, vl, pl, (by first | assumption | omega), (by first | assumption | omega), (by first | assumption | omega), (by first | assumption | omega), (by first | assumption | omega), (by rw [gbRes, if_pos (im_in (show j_2 < 2 by omega)), if_pos (by rw [← ey_3]; exact c_18)]), by rw [ht]; exact hP9, va_K.moved hW.alike hK9, hD9⟩, hS.F ht⟩) hS.2.2 dX4_goBack_23
  · have nc_6 := b_0 wr_1 c_6
    refine lv_ldc (own := RX4) (v := (-1000000001)) hx hb hown (hts (.constant RX4 109 (-1000000001)) (List.mem_of_getElem? (i := 1) rfl)) dX4_goBack_9 ?_
    subst hQe
    have hP9 := hP.sub (ws' := [(m0, .inr (4, [.ref m1, .ref m2, .int (nI bk), .ref m3, .ref m4, .ref m5, .ref m6, .int sd, .ref m7, .ref m8, .int cl, .int pc, .int op])), (m1, .inl (km1, 93, .inl nw)), (m2, .inl (km2, 93, .inl ws)), (m3, .inl (km3, 3720, .inl bc)), (m4, .inl (km4, 186, .inl im)), (m5, .inl (km5, 2, .inl isd)), (m6, .inl (km6, 2, .inl kp)), (m7, .inl (km7, 1525, .inl vl)), (m8, .inl (km8, 24, .inl pl))]) [0, 1, 2, 3, 4, 5, 6, 7, 8] rfl
    have hD9 := hD.sub (ws' := [(m0, .inr (4, [.ref m1, .ref m2, .int (nI bk), .ref m3, .ref m4, .ref m5, .ref m6, .int sd, .ref m7, .ref m8, .int cl, .int pc, .int op])), (m1, .inl (km1, 93, .inl nw)), (m2, .inl (km2, 93, .inl ws)), (m3, .inl (km3, 3720, .inl bc)), (m4, .inl (km4, 186, .inl im)), (m5, .inl (km5, 2, .inl isd)), (m6, .inl (km6, 2, .inl kp)), (m7, .inl (km7, 1525, .inl vl)), (m8, .inl (km8, 24, .inl pl))]) [0, 1, 2, 3, 4, 5, 6, 7, 8] (by decide) rfl
    have hK9 := hK.sub (tys' := [(km1, .int), (km2, .int), (km3, .int), (km4, .int), (km5, .int), (km6, .boolean), (km7, .int), (km8, .int)]) [0, 1, 2, 3, 4, 5, 6, 7] rfl
    subst hAe
    exact W.iret (v := ((-1000000001))) hx hb hr (fun t ht hW => ⟨⟨_, _, rfl, rfl, bk, sd, cl, pc, op, nw, ws, bc, im, isd, vl, pl, (by first | assumption | omega), (by first | assumption | omega), (by first | assumption | omega), (by first | assumption | omega), (by first | assumption | omega), (if_neg (im_out2 nc_6)).symm, by rw [ht]; exact hP9, va_K.moved hW.alike hK9, hD9⟩, hS.F ht⟩) hS.2.2 dX4_goBack_11
