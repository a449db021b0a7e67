set_option maxHeartbeats 4000000 in
set_option maxRecDepth 100000 in
theorem c_X4_told (l : Launch) (dC : Nat → ClassId) (dI : Nat → Nat → Nat) (m0 m1 m2 m3 m4 m5 m6 m7 m8 : Nat) (km1 km2 km3 km4 km5 km6 km7 km8 : ClassId) (sz : Nat) (bk : Nat) (sd : Int32) (cl : Int32) (pc : Int32) (op : Int32) (nw : Nat → Int32) (ws : Nat → Int32) (bc : Nat → Int32) (im : Nat → Int32) (isd : Nat → Int32) (kp : Nat → Int32) (vl : Nat → Int32) (pl : Nat → Int32) (a : Int32) (i0 : bk ≤ 40) (i1 : okN nw) (i2 : okB 40 bc) (i3 : okB 2 im) (i4 : bdA 60 24 pl) : Met l yX4_told wsX4_told ({ frames := 10, cells := 0, slots := 0, locals := 228 }) (va_Pc [.ref m0, .int a] (fun U => U.heap.size = sz ∧ va_P (dC, dI) vwCl [(m0, .inr (4, [.ref m1, .ref m2, .int (nI bk), .ref m3, .ref m4, .ref m5, .ref m6, .int sd, .ref m7, .ref m8, .int cl, .int pc, .int op])), (m1, .inl (km1, 93, .inl nw)), (m2, .inl (km2, 93, .inl ws)), (m3, .inl (km3, 3720, .inl bc)), (m4, .inl (km4, 186, .inl im)), (m5, .inl (km5, 2, .inl isd)), (m6, .inl (km6, 2, .inl kp)), (m7, .inl (km7, 1525, .inl vl)), (m8, .inl (km8, 24, .inl pl))] U.heap ∧ va_K (dC, dI) vwCl [(km1, .int), (km2, .int), (km3, .int), (km4, .int), (km5, .int), (km6, .boolean), (km7, .int), (km8, .int)] U ∧ va_D (fun _ => True) [(m0, .inr (4, [.ref m1, .ref m2, .int (nI bk), .ref m3, .ref m4, .ref m5, .ref m6, .int sd, .ref m7, .ref m8, .int cl, .int pc, .int op])), (m1, .inl (km1, 93, .inl nw)), (m2, .inl (km2, 93, .inl ws)), (m3, .inl (km3, 3720, .inl bc)), (m4, .inl (km4, 186, .inl im)), (m5, .inl (km5, 2, .inl isd)), (m6, .inl (km6, 2, .inl kp)), (m7, .inl (km7, 1525, .inl vl)), (m8, .inl (km8, 24, .inl pl))])) (va_Qi (fun (r u : Int32) => u = r) (fun r t => ∃ (bk' : Nat) (sd' : Int32) (cl' : Int32) (pc' : Int32) (op' : Int32) (nw' : Nat → Int32) (ws' : Nat → Int32) (bc' : Nat → Int32) (im' : Nat → Int32) (isd' : Nat → Int32) (vl' : Nat → Int32) (pl' : Nat → Int32), bk' ≤ 40 ∧ okN nw' ∧ okB 40 bc' ∧ okB 2 im' ∧ bdA 60 24 pl' ∧ va_P (dC, dI) vwCl [(m0, .inr (4, [.ref m1, .ref m2, .int (nI bk'), .ref m3, .ref m4, .ref m5, .ref m6, .int sd', .ref m7, .ref m8, .int cl', .int pc', .int op'])), (m1, .inl (km1, 93, .inl nw')), (m2, .inl (km2, 93, .inl ws')), (m3, .inl (km3, 3720, .inl bc')), (m4, .inl (km4, 186, .inl im')), (m5, .inl (km5, 2, .inl isd')), (m6, .inl (km6, 2, .inl kp)), (m7, .inl (km7, 1525, .inl vl')), (m8, .inl (km8, 24, .inl pl'))] t.heap ∧ va_K (dC, dI) vwCl [(km1, .int), (km2, .int), (km3, .int), (km4, .int), (km5, .int), (km6, .boolean), (km7, .int), (km8, .int)] t ∧ va_D (va_A [(m0, .inr (4, [.ref m1, .ref m2, .int (nI bk), .ref m3, .ref m4, .ref m5, .ref m6, .int sd, .ref m7, .ref m8, .int cl, .int pc, .int op])), (m1, .inl (km1, 93, .inl nw)), (m2, .inl (km2, 93, .inl ws)), (m3, .inl (km3, 3720, .inl bc)), (m4, .inl (km4, 186, .inl im)), (m5, .inl (km5, 2, .inl isd)), (m6, .inl (km6, 2, .inl kp)), (m7, .inl (km7, 1525, .inl vl)), (m8, .inl (km8, 24, .inl pl))] sz) [(m0, .inr (4, [.ref m1, .ref m2, .int (nI bk'), .ref m3, .ref m4, .ref m5, .ref m6, .int sd', .ref m7, .ref m8, .int cl', .int pc', .int op'])), (m1, .inl (km1, 93, .inl nw')), (m2, .inl (km2, 93, .inl ws')), (m3, .inl (km3, 3720, .inl bc')), (m4, .inl (km4, 186, .inl im')), (m5, .inl (km5, 2, .inl isd')), (m6, .inl (km6, 2, .inl kp)), (m7, .inl (km7, 1525, .inl vl')), (m8, .inl (km8, 24, .inl pl'))]) (va_A [(m0, .inr (4, [.ref m1, .ref m2, .int (nI bk), .ref m3, .ref m4, .ref m5, .ref m6, .int sd, .ref m7, .ref m8, .int cl, .int pc, .int op])), (m1, .inl (km1, 93, .inl nw)), (m2, .inl (km2, 93, .inl ws)), (m3, .inl (km3, 3720, .inl bc)), (m4, .inl (km4, 186, .inl im)), (m5, .inl (km5, 2, .inl isd)), (m6, .inl (km6, 2, .inl kp)), (m7, .inl (km7, 1525, .inl vl)), (m8, .inl (km8, 24, .inl pl))] sz)) 0 0 (va_A [(m0, .inr (4, [.ref m1, .ref m2, .int (nI bk), .ref m3, .ref m4, .ref m5, .ref m6, .int sd, .ref m7, .ref m8, .int cl, .int pc, .int op])), (m1, .inl (km1, 93, .inl nw)), (m2, .inl (km2, 93, .inl ws)), (m3, .inl (km3, 3720, .inl bc)), (m4, .inl (km4, 186, .inl im)), (m5, .inl (km5, 2, .inl isd)), (m6, .inl (km6, 2, .inl kp)), (m7, .inl (km7, 1525, .inl vl)), (m8, .inl (km8, 24, .inl pl))] sz) := by
  refine Met.ofW (cc := cX4_told) (maxL := 2) (ret := (some .int)) (by decide) rfl ?_
  intro p e s m args below meth c s₁ B hml hv
  obtain ⟨rfl, hsz, hP, hK, hD0⟩ := hv
  have hx := B.exec
  have hb := B.bytes
  have hr := B.returns
  have hts := atoms_spec (ws := wsX4_told) B.pre
  have hown : s.vm.findClass RX4 = some m.cls := findClass_of_methodNamed B.named
  have hlocks := B.notSynchronized
  have inX4 : ∀ w ∈ wsX40, w ∈ wsX4_told := fun _ h => List.mem_cons_of_mem _ (List.mem_append_right _ h)
  subst hsz
  have hD := hD0.self (sz := s.heap.size)
  generalize hAe : va_A [(m0, .inr (4, [.ref m1, .ref m2, .int (nI bk), .ref m3, .ref m4, .ref m5, .ref m6, .int sd, .ref m7, .ref m8, .int cl, .int pc, .int op])), (m1, .inl (km1, 93, .inl nw)), (m2, .inl (km2, 93, .inl ws)), (m3, .inl (km3, 3720, .inl bc)), (m4, .inl (km4, 186, .inl im)), (m5, .inl (km5, 2, .inl isd)), (m6, .inl (km6, 2, .inl kp)), (m7, .inl (km7, 1525, .inl vl)), (m8, .inl (km8, 24, .inl pl))] s.heap.size = A at hD ⊢
  have hA : ∀ q : Nat, s.heap.size ≤ q → A q := fun q h => by rw [← hAe]; exact Or.inr h
  have hS : va_S A s.heap s.heap [] := va_S.rf
  have hl := lv_entry ([.ref m0, .int a]) (n := 2) (Nat.le_of_ble_eq_true rfl)
  rw [lg_entry_eq]
  generalize (lg_sl ([.ref m0, .int a]) ++ List.replicate (2 - (lg_sl ([.ref m0, .int a])).length) Slot.unset).toArray = ls at hl ⊢
  generalize hQe : MQ below _ _ s 0 0 _ = Q
  generalize ([.ref m0, .int a] : List Value).toArray = args at hts hQe ⊢
  have hl : lv_has ls 2 [(0, .ref m0), (1, .int a)] := hl
  refine lv_iload_n hx hb dX4_told_0 rfl (lv_at hl 1 rfl) ?_
  refine lv_iconst (v := nI 0) hx hb dX4_told_1 (by decide) ?_
  refine lv_bipush (v := nI 13) hx hb dX4_told_2 (by decide) ?_
  refine va_calli (va_runS (As := [.int a, .int (nI 0), .int (nI 13)]) (rest := []) ⟨hx, hb, hml, hown, hts⟩ (c_X4_in l dC dI   a (nI 0) (nI 13)  ) (va_cwS 3 hts gX4_told_X4_in rfl rfl rfl (by decide +kernel) ⟨Nat.le_of_ble_eq_true rfl, Nat.le_of_ble_eq_true rfl⟩) ⟨fun a U g mk q => q, fun U hU hW => ⟨rfl, trivial⟩⟩ rfl rfl hl.1 rfl (lv_room (Nat.le_of_ble_eq_true rfl)) dX4_told_4 ⟨Nat.le_of_ble_eq_true rfl, Nat.le_of_ble_eq_true rfl⟩) hS (fun q _ h => h.elim) (fun q h => h.elim) (fun r_1 u9 t9 H1 locs ht hvm hw hB hz1 hk1 hS => ?_)
  refine W.widen (k := 0) (n := 0) (Nat.le_of_ble_eq_true rfl) (Nat.le_of_ble_eq_true rfl) ?_
  have hP := hP.kept (H1 := H1) (fun k q hk => hk1 q.1 (hP k q hk).lt (fun h => h))
  clear hz1 hk1 hB ht hvm t9
  generalize H1 = H at hP hS ⊢
  have hP : va_P (dC, dI) vwCl [(m0, .inr (4, [.ref m1, .ref m2, .int (nI bk), .ref m3, .ref m4, .ref m5, .ref m6, .int sd, .ref m7, .ref m8, .int cl, .int pc, .int op])), (m1, .inl (km1, 93, .inl nw)), (m2, .inl (km2, 93, .inl ws)), (m3, .inl (km3, 3720, .inl bc)), (m4, .inl (km4, 186, .inl im)), (m5, .inl (km5, 2, .inl isd)), (m6, .inl (km6, 2, .inl kp)), (m7, .inl (km7, 1525, .inl vl)), (m8, .inl (km8, 24, .inl pl))] H := hP
  have wr_1 := hw
  clear hw
  refine lv_if_eq (tgt := 18) hx hb dX4_told_7 (by decide) (fun c_7 => ?_) (fun c_7 => ?_)
  · have nc_7 := b_0 wr_1 c_7
    refine lv_ldc (own := RX4) (v := (-1000000002)) hx hb hown (hts (.constant RX4 110 (-1000000002)) (List.mem_of_getElem? (i := 1) rfl)) dX4_told_18 ?_
    subst hQe
    have hP9 := hP.sub (ws' := [(m0, .inr (4, [.ref m1, .ref m2, .int (nI bk), .ref m3, .ref m4, .ref m5, .ref m6, .int sd, .ref m7, .ref m8, .int cl, .int pc, .int op])), (m1, .inl (km1, 93, .inl nw)), (m2, .inl (km2, 93, .inl ws)), (m3, .inl (km3, 3720, .inl bc)), (m4, .inl (km4, 186, .inl im)), (m5, .inl (km5, 2, .inl isd)), (m6, .inl (km6, 2, .inl kp)), (m7, .inl (km7, 1525, .inl vl)), (m8, .inl (km8, 24, .inl pl))]) [0, 1, 2, 3, 4, 5, 6, 7, 8] rfl
    have hD9 := hD.sub (ws' := [(m0, .inr (4, [.ref m1, .ref m2, .int (nI bk), .ref m3, .ref m4, .ref m5, .ref m6, .int sd, .ref m7, .ref m8, .int cl, .int pc, .int op])), (m1, .inl (km1, 93, .inl nw)), (m2, .inl (km2, 93, .inl ws)), (m3, .inl (km3, 3720, .inl bc)), (m4, .inl (km4, 186, .inl im)), (m5, .inl (km5, 2, .inl isd)), (m6, .inl (km6, 2, .inl kp)), (m7, .inl (km7, 1525, .inl vl)), (m8, .inl (km8, 24, .inl pl))]) [0, 1, 2, 3, 4, 5, 6, 7, 8] (by decide) rfl
    have hK9 := hK.sub (tys' := [(km1, .int), (km2, .int), (km3, .int), (km4, .int), (km5, .int), (km6, .boolean), (km7, .int), (km8, .int)]) [0, 1, 2, 3, 4, 5, 6, 7] rfl
    subst hAe
    exact W.iret (v := ((-1000000002))) hx hb hr (fun t ht hW => ⟨⟨_, _, rfl, rfl, bk, sd, cl, pc, op, nw, ws, bc, im, isd, vl, pl, (by first | assumption | omega), (by first | assumption | omega), (by first | assumption | omega), (by first | assumption | omega), (by first | assumption | omega), by rw [ht]; exact hP9, va_K.moved hW.alike hK9, hD9⟩, hS.F ht⟩) hS.2.2 dX4_told_20
  · obtain ⟨j_2, hj_2, rfl⟩ := rg_0 (by decide) (b_1 wr_1 c_7)
    refine lv_aload_n hx hb dX4_told_10 rfl (lv_at hl 0 rfl) ?_
    refine lv_iload_n hx hb dX4_told_11 rfl (lv_at hl 1 rfl) ?_
    have hPc := hP.sub (ws' := [(m0, .inr (4, [.ref m1, .ref m2, .int (nI bk), .ref m3, .ref m4, .ref m5, .ref m6, .int sd, .ref m7, .ref m8, .int cl, .int pc, .int op])), (m1, .inl (km1, 93, .inl nw)), (m7, .inl (km7, 1525, .inl vl)), (m8, .inl (km8, 24, .inl pl))]) [0, 1, 7, 8] rfl
    have hKc := hK.sub (tys' := [(km1, .int), (km7, .int), (km8, .int)]) [0, 6, 7] rfl
    have hDc := hD.sub (ws' := [(m0, .inr (4, [.ref m1, .ref m2, .int (nI bk), .ref m3, .ref m4, .ref m5, .ref m6, .int sd, .ref m7, .ref m8, .int cl, .int pc, .int op])), (m1, .inl (km1, 93, .inl nw)), (m7, .inl (km7, 1525, .inl vl)), (m8, .inl (km8, 24, .inl pl))]) [0, 1, 7, 8] (by decide) rfl
    have hFc := va_free (wc := [(m0, .inr (4, [.ref m1, .ref m2, .int (nI bk), .ref m3, .ref m4, .ref m5, .ref m6, .int sd, .ref m7, .ref m8, .int cl, .int pc, .int op])), (m1, .inl (km1, 93, .inl nw)), (m7, .inl (km7, 1525, .inl vl)), (m8, .inl (km8, 24, .inl pl))]) hD hS hA [0, 1, 7, 8] rfl
    refine va_calli (va_runV (As := [.int (nI j_2)]) (rest := []) ⟨hx, hb, hml, hown, hts⟩ (c_X4_toldOf l dC dI m0 m1 m7 m8 m2 m3 m4 m5 m6 km1 km7 km8 H.size bk sd cl pc op nw vl pl j_2 (by first | assumption | omega) (by first | assumption | omega) (by first | assumption | omega) (by first | assumption | omega)) (cwV 1 hts gX4_told_X4_toldOf rfl rfl rfl (by decide +kernel) ⟨Nat.le_of_ble_eq_true rfl, Nat.le_of_ble_eq_true rfl⟩) ⟨fun a U g mk q => by obtain ⟨q0, q1, qP, qK, qD⟩ := q; exact ⟨q0, q1, qP, va_K.moved (u := U) (U := U.calling g mk a) (Vm.Alike.refl U.vm) qK, qD⟩, va_recv hKc hPc (ci := 4) (q0 := 0) rfl rfl, fun U hU hW => ⟨rfl, by rw [hU], by rw [hU]; exact hPc, va_K.moved hW.alike hKc, hDc.weaken (fun _ _ _ _ => trivial)⟩⟩ rfl rfl hl.1 rfl (lv_room (Nat.le_of_ble_eq_true rfl)) dX4_told_12 ⟨Nat.le_of_ble_eq_true rfl, Nat.le_of_ble_eq_true rfl⟩) hS (fun q _ h => hFc q h) hFc (fun r_3 u9 t9 H1 locs ht hvm hw hB hz1 hk1 hS => ?_)
    refine W.widen (k := 0) (n := 0) (Nat.le_of_ble_eq_true rfl) (Nat.le_of_ble_eq_true rfl) ?_
    obtain ⟨vl_4, pl_5, h_6, hP1, hK1, hD1⟩ := hB
    rw [ht] at hP1
    have hw := hw.symm
    subst hw
    obtain ⟨hP, hD⟩ := va_join (wr := [(m2, .inl (km2, 93, .inl ws)), (m3, .inl (km3, 3720, .inl bc)), (m4, .inl (km4, 186, .inl im)), (m5, .inl (km5, 2, .inl isd)), (m6, .inl (km6, 2, .inl kp))]) (w1 := [(m0, .inr (4, [.ref m1, .ref m2, .int (nI bk), .ref m3, .ref m4, .ref m5, .ref m6, .int sd, .ref m7, .ref m8, .int cl, .int pc, .int op])), (m1, .inl (km1, 93, .inl nw)), (m7, .inl (km7, 1525, .inl vl_4)), (m8, .inl (km8, 24, .inl pl_5))]) hP hD [0, 1, 7, 8] [2, 3, 4, 5, 6] rfl rfl (by decide) (by decide) hk1 hFc hP1 hD1
    clear hPc hDc hKc hFc hz1 hk1 ht hvm hP1 hK1 hD1 t9
    generalize H1 = H at hP hS ⊢
    have hP := hP.sub (ws' := [(m0, .inr (4, [.ref m1, .ref m2, .int (nI bk), .ref m3, .ref m4, .ref m5, .ref m6, .int sd, .ref m7, .ref m8, .int cl, .int pc, .int op])), (m1, .inl (km1, 93, .inl nw)), (m2, .inl (km2, 93, .inl ws)), (m3, .inl (km3, 3720, .inl bc)), (m4, .inl (km4, 186, .inl im)), (m5, .inl (km5, 2, .inl isd)), (m6, .inl (km6, 2, .inl kp)), (m7, .inl (km7, 1525, .inl vl_4)), (m8, .inl (km8, 24, .inl pl_5))]) [5, 6, 0, 1, 2, 3, 4, 7, 8] rfl
    have hD := hD.sub (ws' := [(m0, .inr (4, [.ref m1, .ref m2, .int (nI bk), .ref m3, .ref m4, .ref m5, .ref m6, .int sd, .ref m7, .ref m8, .int cl, .int pc, .int op])), (m1, .inl (km1, 93, .inl nw)), (m2, .inl (km2, 93, .inl ws)), (m3, .inl (km3, 3720, .inl bc)), (m4, .inl (km4, 186, .inl im)), (m5, .inl (km5, 2, .inl isd)), (m6, .inl (km6, 2, .inl kp)), (m7, .inl (km7, 1525, .inl vl_4)), (m8, .inl (km8, 24, .inl pl_5))]) [5, 6, 0, 1, 2, 3, 4, 7, 8] (by decide) rfl
    refine lv_goto (tgt := 20) hx hb dX4_told_15 (by decide) ?_
    subst hQe
    have hP9 := hP.sub (ws' := [(m0, .inr (4, [.ref m1, .ref m2, .int (nI bk), .ref m3, .ref m4, .ref m5, .ref m6, .int sd, .ref m7, .ref m8, .int cl, .int pc, .int op])), (m1, .inl (km1, 93, .inl nw)), (m2, .inl (km2, 93, .inl ws)), (m3, .inl (km3, 3720, .inl bc)), (m4, .inl (km4, 186, .inl im)), (m5, .inl (km5, 2, .inl isd)), (m6, .inl (km6, 2, .inl kp)), (m7, .inl (km7, 1525, .inl vl_4)), (m8, .inl (km8, 24, .inl pl_5))]) [0, 1, 2, 3, 4, 5, 6, 7, 8] rfl
    have hD9 := hD.sub (ws' := [(m0, .inr (4, [.ref m1, .ref m2, .int (nI bk), .ref m3, .ref m4, .ref m5, .ref m6, .int sd, .ref m7, .ref m8, .int cl, .int pc, .int op])), (m1, .inl (km1, 93, .inl nw)), (m2, .inl (km2, 93, .inl ws)), (m3, .inl (km3, 3720, .inl bc)), (m4, .inl (km4, 186, .inl im)), (m5, .inl (km5, 2, .inl isd)), (m6, .inl (km6, 2, .inl kp)), (m7, .inl (km7, 1525, .inl vl_4)), (m8, .inl (km8, 24, .inl pl_5))]) [0, 1, 2, 3, 4, 5, 6, 7, 8] (by decide) rfl
    have hK9 := hK.sub (tys' := [(km1, .int), (km2, .int), (km3, .int), (km4, .int), (km5, .int), (km6, .boolean), (km7, .int), (km8, .int)]) [0, 1, 2, 3, 4, 5, 6, 7] rfl
    subst hAe
    exact W.iret (v := r_3) hx hb hr (fun t ht hW => ⟨⟨_, _, rfl, rfl, bk, sd, cl, pc, op, nw, ws, bc, im, isd, vl_4, pl_5, (by first | assumption | omega), (by first | assumption | omega), (by first | assumption | omega), (by first | assumption | omega), (by first | assumption | omega), by rw [ht]; exact hP9, va_K.moved hW.alike hK9, hD9⟩, hS.F ht⟩) hS.2.2 dX4_told_20
set_option maxHeartbeats 4000000 in
set_option maxRecDepth 100000 in
theorem c_X4_hour (l : Launch) (dC : Nat → ClassId) (dI : Nat → Nat → Nat) (m0 m1 m2 m3 m4 m5 m6 m7 m8 : Nat) (km1 km2 km3 km4 km5 km6 km7 km8 : ClassId) (sz : Nat) (bk : Nat) (sd : Int32) (cl : Int32) (pc : Int32) (op : Int32) (nw : Nat → Int32) (ws : Nat → Int32) (bc : Nat → Int32) (im : Nat → Int32) (isd : Nat → Int32) (kp : Nat → Int32) (vl : Nat → Int32) (pl : Nat → Int32) (h : Int32) (a : Int32) (i0 : bk ≤ 40) (i1 : okN nw) (i2 : okB 40 bc) (i3 : okB 2 im) (i4 : bdA 60 24 pl) : Met l yX4_hour wsX4_hour ({ frames := 10, cells := 0, slots := 0, locals := 233 }) (va_Pc [.ref m0, .int h, .int a] (fun U => U.heap.size = sz ∧ va_P (dC, dI) vwCl [(m0, .inr (4, [.ref m1, .ref m2, .int (nI bk), .ref m3, .ref m4, .ref m5, .ref m6, .int sd, .ref m7, .ref m8, .int cl, .int pc, .int op])), (m1, .inl (km1, 93, .inl nw)), (m2, .inl (km2, 93, .inl ws)), (m3, .inl (km3, 3720, .inl bc)), (m4, .inl (km4, 186, .inl im)), (m5, .inl (km5, 2, .inl isd)), (m6, .inl (km6, 2, .inl kp)), (m7, .inl (km7, 1525, .inl vl)), (m8, .inl (km8, 24, .inl pl))] U.heap ∧ va_K (dC, dI) vwCl [(km1, .int), (km2, .int), (km3, .int), (km4, .int), (km5, .int), (km6, .boolean), (km7, .int), (km8, .int)] U ∧ va_D (fun _ => True) [(m0, .inr (4, [.ref m1, .ref m2, .int (nI bk), .ref m3, .ref m4, .ref m5, .ref m6, .int sd, .ref m7, .ref m8, .int cl, .int pc, .int op])), (m1, .inl (km1, 93, .inl nw)), (m2, .inl (km2, 93, .inl ws)), (m3, .inl (km3, 3720, .inl bc)), (m4, .inl (km4, 186, .inl im)), (m5, .inl (km5, 2, .inl isd)), (m6, .inl (km6, 2, .inl kp)), (m7, .inl (km7, 1525, .inl vl)), (m8, .inl (km8, 24, .inl pl))])) (va_Qi (fun (r u : Int32) => u = r) (fun r t => ∃ (bk' : Nat) (sd' : Int32) (cl' : Int32) (pc' : Int32) (op' : Int32) (nw' : Nat → Int32) (ws' : Nat → Int32) (bc' : Nat → Int32) (im' : Nat → Int32) (isd' : Nat → Int32) (vl' : Nat → Int32) (pl' : Nat → Int32), bk' ≤ 40 ∧ okN nw' ∧ okB 40 bc' ∧ okB 2 im' ∧ bdA 60 24 pl' ∧ va_P (dC, dI) vwCl [(m0, .inr (4, [.ref m1, .ref m2, .int (nI bk'), .ref m3, .ref m4, .ref m5, .ref m6, .int sd', .ref m7, .ref m8, .int cl', .int pc', .int op'])), (m1, .inl (km1, 93, .inl nw')), (m2, .inl (km2, 93, .inl ws')), (m3, .inl (km3, 3720, .inl bc')), (m4, .inl (km4, 186, .inl im')), (m5, .inl (km5, 2, .inl isd')), (m6, .inl (km6, 2, .inl kp)), (m7, .inl (km7, 1525, .inl vl')), (m8, .inl (km8, 24, .inl pl'))] t.heap ∧ va_K (dC, dI) vwCl [(km1, .int), (km2, .int), (km3, .int), (km4, .int), (km5, .int), (km6, .boolean), (km7, .int), (km8, .int)] t ∧ va_D (va_A [(m0, .inr (4, [.ref m1, .ref m2, .int (nI bk), .ref m3, .ref m4, .ref m5, .ref m6, .int sd, .ref m7, .ref m8, .int cl, .int pc, .int op])), (m1, .inl (km1, 93, .inl nw)), (m2, .inl (km2, 93, .inl ws)), (m3, .inl (km3, 3720, .inl bc)), (m4, .inl (km4, 186, .inl im)), (m5, .inl (km5, 2, .inl isd)), (m6, .inl (km6, 2, .inl kp)), (m7, .inl (km7, 1525, .inl vl)), (m8, .inl (km8, 24, .inl pl))] sz) [(m0, .inr (4, [.ref m1, .ref m2, .int (nI bk'), .ref m3, .ref m4, .ref m5, .ref m6, .int sd', .ref m7, .ref m8, .int cl', .int pc', .int op'])), (m1, .inl (km1, 93, .inl nw')), (m2, .inl (km2, 93, .inl ws')), (m3, .inl (km3, 3720, .inl bc')), (m4, .inl (km4, 186, .inl im')), (m5, .inl (km5, 2, .inl isd')), (m6, .inl (km6, 2, .inl kp)), (m7, .inl (km7, 1525, .inl vl')), (m8, .inl (km8, 24, .inl pl'))]) (va_A [(m0, .inr (4, [.ref m1, .ref m2, .int (nI bk), .ref m3, .ref m4, .ref m5, .ref m6, .int sd, .ref m7, .ref m8, .int cl, .int pc, .int op])), (m1, .inl (km1, 93, .inl nw)), (m2, .inl (km2, 93, .inl ws)), (m3, .inl (km3, 3720, .inl bc)), (m4, .inl (km4, 186, .inl im)), (m5, .inl (km5, 2, .inl isd)), (m6, .inl (km6, 2, .inl kp)), (m7, .inl (km7, 1525, .inl vl)), (m8, .inl (km8, 24, .inl pl))] sz)) 0 0 (va_A [(m0, .inr (4, [.ref m1, .ref m2, .int (nI bk), .ref m3, .ref m4, .ref m5, .ref m6, .int sd, .ref m7, .ref m8, .int cl, .int pc, .int op])), (m1, .inl (km1, 93, .inl nw)), (m2, .inl (km2, 93, .inl ws)), (m3, .inl (km3, 3720, .inl bc)), (m4, .inl (km4, 186, .inl im)), (m5, .inl (km5, 2, .inl isd)), (m6, .inl (km6, 2, .inl kp)), (m7, .inl (km7, 1525, .inl vl)), (m8, .inl (km8, 24, .inl pl))] sz) := by
  refine Met.ofW (cc := cX4_hour) (maxL := 3) (ret := (some .int)) (by decide) rfl ?_
  intro p e s m args below meth c s₁ B hml hv
  obtain ⟨rfl, hsz, hP, hK, hD0⟩ := hv
  have hx := B.exec
  have hb := B.bytes
  have hr := B.returns
  have hts := atoms_spec (ws := wsX4_hour) B.pre
  have hown : s.vm.findClass RX4 = some m.cls := findClass_of_methodNamed B.named
  have hlocks := B.notSynchronized
  have inX4 : ∀ w ∈ wsX40, w ∈ wsX4_hour := fun _ h => List.mem_cons_of_mem _ (List.mem_append_right _ h)
  subst hsz
  have hD := hD0.self (sz := s.heap.size)
  generalize hAe : va_A [(m0, .inr (4, [.ref m1, .ref m2, .int (nI bk), .ref m3, .ref m4, .ref m5, .ref m6, .int sd, .ref m7, .ref m8, .int cl, .int pc, .int op])), (m1, .inl (km1, 93, .inl nw)), (m2, .inl (km2, 93, .inl ws)), (m3, .inl (km3, 3720, .inl bc)), (m4, .inl (km4, 186, .inl im)), (m5, .inl (km5, 2, .inl isd)), (m6, .inl (km6, 2, .inl kp)), (m7, .inl (km7, 1525, .inl vl)), (m8, .inl (km8, 24, .inl pl))] s.heap.size = A at hD ⊢
  have hA : ∀ q : Nat, s.heap.size ≤ q → A q := fun q h => by rw [← hAe]; exact Or.inr h
  have hS : va_S A s.heap s.heap [] := va_S.rf
  have hl := lv_entry ([.ref m0, .int h, .int a]) (n := 3) (Nat.le_of_ble_eq_true rfl)
  rw [lg_entry_eq]
  generalize (lg_sl ([.ref m0, .int h, .int a]) ++ List.replicate (3 - (lg_sl ([.ref m0, .int h, .int a])).length) Slot.unset).toArray = ls at hl ⊢
  generalize hQe : MQ below _ _ s 0 0 _ = Q
  generalize ([.ref m0, .int h, .int a] : List Value).toArray = args at hts hQe ⊢
  have hl : lv_has ls 3 [(0, .ref m0), (1, .int h), (2, .int a)] := hl
  refine lv_iload_n hx hb dX4_hour_0 rfl (lv_at hl 1 rfl) ?_
  refine va_calli (va_runS (As := [.int h]) (rest := []) ⟨hx, hb, hml, hown, hts⟩ (c_X4_isHour l dC dI   h  ) (va_cwS 1 hts gX4_hour_X4_isHour rfl rfl rfl (by decide +kernel) ⟨Nat.le_of_ble_eq_true rfl, Nat.le_of_ble_eq_true rfl⟩) ⟨fun a U g mk q => q, fun U hU hW => ⟨rfl, trivial⟩⟩ rfl rfl hl.1 rfl (lv_room (Nat.le_of_ble_eq_true rfl)) dX4_hour_1 ⟨Nat.le_of_ble_eq_true rfl, Nat.le_of_ble_eq_true rfl⟩) hS (fun q _ h => h.elim) (fun q h => h.elim) (fun r_1 u9 t9 H1 locs ht hvm hw hB hz1 hk1 hS => ?_)
  refine W.widen (k := 0) (n := 0) (Nat.le_of_ble_eq_true rfl) (Nat.le_of_ble_eq_true rfl) ?_
  have hP := hP.kept (H1 := H1) (fun k q hk => hk1 q.1 (hP k q hk).lt (fun h => h))
  clear hz1 hk1 hB ht hvm t9
  generalize H1 = H at hP hS ⊢
  have hP : va_P (dC, dI) vwCl [(m0, .inr (4, [.ref m1, .ref m2, .int (nI bk), .ref m3, .ref m4, .ref m5, .ref m6, .int sd, .ref m7, .ref m8, .int cl, .int pc, .int op])), (m1, .inl (km1, 93, .inl nw)), (m2, .inl (km2, 93, .inl ws)), (m3, .inl (km3, 3720, .inl bc)), (m4, .inl (km4, 186, .inl im)), (m5, .inl (km5, 2, .inl isd)), (m6, .inl (km6, 2, .inl kp)), (m7, .inl (km7, 1525, .inl vl)), (m8, .inl (km8, 24, .inl pl))] H := hP
  have wr_1 := hw
  clear hw
  refine lv_if_ne (tgt := 10) hx hb dX4_hour_4 (by decide) (fun c_4 => ?_) (fun c_4 => ?_)
  · obtain ⟨j_2, hj_2, rfl⟩ := b_1 wr_1 c_4
    refine lv_iload_n hx hb dX4_hour_10 rfl (lv_at hl 2 rfl) ?_
    refine lv_iconst (v := nI 0) hx hb dX4_hour_11 (by decide) ?_
    refine lv_bipush (v := nI 6) hx hb dX4_hour_12 (by decide) ?_
    refine va_calli (va_runS (As := [.int a, .int (nI 0), .int (nI 6)]) (rest := []) ⟨hx, hb, hml, hown, hts⟩ (c_X4_in l dC dI   a (nI 0) (nI 6)  ) (va_cwS 3 hts gX4_hour_X4_in rfl rfl rfl (by decide +kernel) ⟨Nat.le_of_ble_eq_true rfl, Nat.le_of_ble_eq_true rfl⟩) ⟨fun a U g mk q => q, fun U hU hW => ⟨rfl, trivial⟩⟩ rfl rfl hl.1 rfl (lv_room (Nat.le_of_ble_eq_true rfl)) dX4_hour_14 ⟨Nat.le_of_ble_eq_true rfl, Nat.le_of_ble_eq_true rfl⟩) hS (fun q _ h => h.elim) (fun q h => h.elim) (fun r_3 u9 t9 H1 locs ht hvm hw hB hz1 hk1 hS => ?_)
    refine W.widen (k := 0) (n := 0) (Nat.le_of_ble_eq_true rfl) (Nat.le_of_ble_eq_true rfl) ?_
    have hP := hP.kept (H1 := H1) (fun k q hk => hk1 q.1 (hP k q hk).lt (fun h => h))
    clear hz1 hk1 hB ht hvm t9
    generalize H1 = H at hP hS ⊢
    have hP : va_P (dC, dI) vwCl [(m0, .inr (4, [.ref m1, .ref m2, .int (nI bk), .ref m3, .ref m4, .ref m5, .ref m6, .int sd, .ref m7, .ref m8, .int cl, .int pc, .int op])), (m1, .inl (km1, 93, .inl nw)), (m2, .inl (km2, 93, .inl ws)), (m3, .inl (km3, 3720, .inl bc)), (m4, .inl (km4, 186, .inl im)), (m5, .inl (km5, 2, .inl isd)), (m6, .inl (km6, 2, .inl kp)), (m7, .inl (km7, 1525, .inl vl)), (m8, .inl (km8, 24, .inl pl))] H := hP
    have wr_3 := hw
    clear hw
    refine lv_if_ne (tgt := 23) hx hb dX4_hour_17 (by decide) (fun c_17 => ?_) (fun c_17 => ?_)
    · obtain ⟨j_4, hj_4, rfl⟩ := rg_0 (by decide) (b_1 wr_3 c_17)
      refine lv_iload_n hx hb dX4_hour_23 rfl (lv_at hl 2 rfl) ?_
      refine lv_iconst (v := nI 3) hx hb dX4_hour_24 (by decide) ?_
      refine lv_icmp_ge (tgt := 67) hx hb dX4_hour_25 (by decide) (fun c_25 => ?_) (fun c_25 => ?_)
      · have c_25 := (nI_leI (by omega : 3 < 2 ^ 31) (by omega : j_4 < 2 ^ 31)).mp c_25
        refine lv_iload_n hx hb dX4_hour_67 rfl (lv_at hl 2 rfl) ?_
        refine lv_bipush (v := nI 6) hx hb dX4_hour_68 (by decide) ?_
        refine lv_icmp_ne (tgt := 79) hx hb dX4_hour_70 (by decide) (fun c_70 => ?_) (fun c_70 => ?_)
        · have c_70 := (not_congr (nI_eq (by omega : j_4 < 2 ^ 31) (by omega : 6 < 2 ^ 31))).mp c_70
          refine lv_iload_n hx hb dX4_hour_79 rfl (lv_at hl 1 rfl) ?_
          refine lv_aload_n hx hb dX4_hour_80 rfl (lv_at hl 0 rfl) ?_
          refine va_get (D := (dC, dI)) (ci := 4) (v := .ref m1) (C := RX4) (T := TX4) (N := 13) hx hb hts inX4 hown hK hP 0 rfl rfl 0 (by decide) (hts (.fieldLink RX4 7 "StoreSlopesModel" "now" "[I") (List.mem_of_getElem? (i := 3) rfl)) (fun _ h9 => h9) rfl dX4_hour_81 ?_
          refine lv_iconst (v := nI 0) hx hb dX4_hour_84 (by decide) ?_
          obtain ⟨j_5, hj_5, ej_5⟩ := (show okN nw by assumption).1
          refine va_iald hx hb hK hP 1 0 rfl rfl (vp_in_nI (show 0 < 93 by omega) (by omega)) dX4_hour_85 ?_
          refine tp_as (cl_as (by omega) ej_5) ?_
          refine lv_icmp_lt (tgt := 96) hx hb dX4_hour_86 (by decide) (fun c_86 => ?_) (fun c_86 => ?_)
          · have c_86 := (nI_ltI (by omega : j_2 < 2 ^ 31) (by omega : j_5 < 2 ^ 31)).mp c_86
            refine lv_iconst (v := (-1)) hx hb dX4_hour_96 (by decide) ?_
            subst hQe
            have hP9 := hP.sub (ws' := [(m0, .inr (4, [.ref m1, .ref m2, .int (nI bk), .ref m3, .ref m4, .ref m5, .ref m6, .int sd, .ref m7, .ref m8, .int cl, .int pc, .int op])), (m1, .inl (km1, 93, .inl nw)), (m2, .inl (km2, 93, .inl ws)), (m3, .inl (km3, 3720, .inl bc)), (m4, .inl (km4, 186, .inl im)), (m5, .inl (km5, 2, .inl isd)), (m6, .inl (km6, 2, .inl kp)), (m7, .inl (km7, 1525, .inl vl)), (m8, .inl (km8, 24, .inl pl))]) [0, 1, 2, 3, 4, 5, 6, 7, 8] rfl
            have hD9 := hD.sub (ws' := [(m0, .inr (4, [.ref m1, .ref m2, .int (nI bk), .ref m3, .ref m4, .ref m5, .ref m6, .int sd, .ref m7, .ref m8, .int cl, .int pc, .int op])), (m1, .inl (km1, 93, .inl nw)), (m2, .inl (km2, 93, .inl ws)), (m3, .inl (km3, 3720, .inl bc)), (m4, .inl (km4, 186, .inl im)), (m5, .inl (km5, 2, .inl isd)), (m6, .inl (km6, 2, .inl kp)), (m7, .inl (km7, 1525, .inl vl)), (m8, .inl (km8, 24, .inl pl))]) [0, 1, 2, 3, 4, 5, 6, 7, 8] (by decide) rfl
            have hK9 := hK.sub (tys' := [(km1, .int), (km2, .int), (km3, .int), (km4, .int), (km5, .int), (km6, .boolean), (km7, .int), (km8, .int)]) [0, 1, 2, 3, 4, 5, 6, 7] rfl
            subst hAe
            exact W.iret (v := ((-1))) hx hb hr (fun t ht hW => ⟨⟨_, _, rfl, rfl, bk, sd, cl, pc, op, nw, ws, bc, im, isd, vl, pl, (by first | assumption | omega), (by first | assumption | omega), (by first | assumption | omega), (by first | assumption | omega), (by first | assumption | omega), by rw [ht]; exact hP9, va_K.moved hW.alike hK9, hD9⟩, hS.F ht⟩) hS.2.2 dX4_hour_97
          · have c_86 := (not_congr (nI_ltI (by omega : j_2 < 2 ^ 31) (by omega : j_5 < 2 ^ 31))).mp c_86
            refine lv_aload_n hx hb dX4_hour_89 rfl (lv_at hl 0 rfl) ?_
            have hPc := hP.sub (ws' := [(m0, .inr (4, [.ref m1, .ref m2, .int (nI bk), .ref m3, .ref m4, .ref m5, .ref m6, .int sd, .ref m7, .ref m8, .int cl, .int pc, .int op])), (m1, .inl (km1, 93, .inl nw)), (m7, .inl (km7, 1525, .inl vl)), (m8, .inl (km8, 24, .inl pl))]) [0, 1, 7, 8] rfl
            have hKc := hK.sub (tys' := [(km1, .int), (km7, .int), (km8, .int)]) [0, 6, 7] rfl
            have hDc := hD.sub (ws' := [(m0, .inr (4, [.ref m1, .ref m2, .int (nI bk), .ref m3, .ref m4, .ref m5, .ref m6, .int sd, .ref m7, .ref m8, .int cl, .int pc, .int op])), (m1, .inl (km1, 93, .inl nw)), (m7, .inl (km7, 1525, .inl vl)), (m8, .inl (km8, 24, .inl pl))]) [0, 1, 7, 8] (by decide) rfl
            have hFc := va_free (wc := [(m0, .inr (4, [.ref m1, .ref m2, .int (nI bk), .ref m3, .ref m4, .ref m5, .ref m6, .int sd, .ref m7, .ref m8, .int cl, .int pc, .int op])), (m1, .inl (km1, 93, .inl nw)), (m7, .inl (km7, 1525, .inl vl)), (m8, .inl (km8, 24, .inl pl))]) hD hS hA [0, 1, 7, 8] rfl
            refine va_calli (va_runV (As := []) (rest := []) ⟨hx, hb, hml, hown, hts⟩ (c_X4_isPlanned l dC dI m0 m1 m7 m8 m2 m3 m4 m5 m6 km1 km7 km8 H.size bk sd cl pc op nw vl pl  (by first | assumption | omega) (by first | assumption | omega) (by first | assumption | omega) ) (cwV 0 hts gX4_hour_X4_isPlanned rfl rfl rfl (by decide +kernel) ⟨Nat.le_of_ble_eq_true rfl, Nat.le_of_ble_eq_true rfl⟩) ⟨fun a U g mk q => by obtain ⟨q0, q1, qP, qK, qD⟩ := q; exact ⟨q0, q1, qP, va_K.moved (u := U) (U := U.calling g mk a) (Vm.Alike.refl U.vm) qK, qD⟩, va_recv hKc hPc (ci := 4) (q0 := 0) rfl rfl, fun U hU hW => ⟨rfl, by rw [hU], by rw [hU]; exact hPc, va_K.moved hW.alike hKc, hDc.weaken (fun _ _ _ _ => trivial)⟩⟩ rfl rfl hl.1 rfl (lv_room (Nat.le_of_ble_eq_true rfl)) dX4_hour_90 ⟨Nat.le_of_ble_eq_true rfl, Nat.le_of_ble_eq_true rfl⟩) hS (fun q _ h => hFc q h) hFc (fun r_6 u9 t9 H1 locs ht hvm hw hB hz1 hk1 hS => ?_)
            refine W.widen (k := 0) (n := 0) (Nat.le_of_ble_eq_true rfl) (Nat.le_of_ble_eq_true rfl) ?_
            obtain ⟨vl_7, pl_8, h_9, hP1, hK1, hD1⟩ := hB
            rw [ht] at hP1
            have hw := hw.symm
            subst hw
            obtain ⟨hP, hD⟩ := va_join (wr := [(m2, .inl (km2, 93, .inl ws)), (m3, .inl (km3, 3720, .inl bc)), (m4, .inl (km4, 186, .inl im)), (m5, .inl (km5, 2, .inl isd)), (m6, .inl (km6, 2, .inl kp))]) (w1 := [(m0, .inr (4, [.ref m1, .ref m2, .int (nI bk), .ref m3, .ref m4, .ref m5, .ref m6, .int sd, .ref m7, .ref m8, .int cl, .int pc, .int op])), (m1, .inl (km1, 93, .inl nw)), (m7, .inl (km7, 1525, .inl vl_7)), (m8, .inl (km8, 24, .inl pl_8))]) hP hD [0, 1, 7, 8] [2, 3, 4, 5, 6] rfl rfl (by decide) (by decide) hk1 hFc hP1 hD1
            clear hPc hDc hKc hFc hz1 hk1 ht hvm hP1 hK1 hD1 t9
            generalize H1 = H at hP hS ⊢
            have hP := hP.sub (ws' := [(m0, .inr (4, [.ref m1, .ref m2, .int (nI bk), .ref m3, .ref m4, .ref m5, .ref m6, .int sd, .ref m7, .ref m8, .int cl, .int pc, .int op])), (m1, .inl (km1, 93, .inl nw)), (m2, .inl (km2, 93, .inl ws)), (m3, .inl (km3, 3720, .inl bc)), (m4, .inl (km4, 186, .inl im)), (m5, .inl (km5, 2, .inl isd)), (m6, .inl (km6, 2, .inl kp)), (m7, .inl (km7, 1525, .inl vl_7)), (m8, .inl (km8, 24, .inl pl_8))]) [5, 6, 0, 1, 2, 3, 4, 7, 8] rfl
            have hD := hD.sub (ws' := [(m0, .inr (4, [.ref m1, .ref m2, .int (nI bk), .ref m3, .ref m4, .ref m5, .ref m6, .int sd, .ref m7, .ref m8, .int cl, .int pc, .int op])), (m1, .inl (km1, 93, .inl nw)), (m2, .inl (km2, 93, .inl ws)), (m3, .inl (km3, 3720, .inl bc)), (m4, .inl (km4, 186, .inl im)), (m5, .inl (km5, 2, .inl isd)), (m6, .inl (km6, 2, .inl kp)), (m7, .inl (km7, 1525, .inl vl_7)), (m8, .inl (km8, 24, .inl pl_8))]) [5, 6, 0, 1, 2, 3, 4, 7, 8] (by decide) rfl
            refine lv_if_ne (tgt := 98) hx hb dX4_hour_93 (by decide) (fun c_93 => ?_) (fun c_93 => ?_)
            · refine lv_iload_n hx hb dX4_hour_98 rfl (lv_at hl 2 rfl) ?_
              refine lv_iconst (v := nI 3) hx hb dX4_hour_99 (by decide) ?_
              refine lv_icmp_ne (tgt := 112) hx hb dX4_hour_100 (by decide) (fun c_100 => ?_) (fun c_100 => ?_)
              · have c_100 := (not_congr (nI_eq (by omega : j_4 < 2 ^ 31) (by omega : 3 < 2 ^ 31))).mp c_100
                refine lv_iload_n hx hb dX4_hour_112 rfl (lv_at hl 2 rfl) ?_
                refine lv_iconst (v := nI 4) hx hb dX4_hour_113 (by decide) ?_
                refine lv_icmp_ne (tgt := 135) hx hb dX4_hour_114 (by decide) (fun c_114 => ?_) (fun c_114 => ?_)
                · have c_114 := (not_congr (nI_eq (by omega : j_4 < 2 ^ 31) (by omega : 4 < 2 ^ 31))).mp c_114
                  refine lv_aload_n hx hb dX4_hour_135 rfl (lv_at hl 0 rfl) ?_
                  refine lv_iload_n hx hb dX4_hour_136 rfl (lv_at hl 1 rfl) ?_
                  have hPc := hP.sub (ws' := [(m0, .inr (4, [.ref m1, .ref m2, .int (nI bk), .ref m3, .ref m4, .ref m5, .ref m6, .int sd, .ref m7, .ref m8, .int cl, .int pc, .int op])), (m1, .inl (km1, 93, .inl nw)), (m7, .inl (km7, 1525, .inl vl_7)), (m8, .inl (km8, 24, .inl pl_8))]) [0, 1, 7, 8] rfl
                  have hKc := hK.sub (tys' := [(km1, .int), (km7, .int), (km8, .int)]) [0, 6, 7] rfl
                  have hDc := hD.sub (ws' := [(m0, .inr (4, [.ref m1, .ref m2, .int (nI bk), .ref m3, .ref m4, .ref m5, .ref m6, .int sd, .ref m7, .ref m8, .int cl, .int pc, .int op])), (m1, .inl (km1, 93, .inl nw)), (m7, .inl (km7, 1525, .inl vl_7)), (m8, .inl (km8, 24, .inl pl_8))]) [0, 1, 7, 8] (by decide) rfl
                  have hFc := va_free (wc := [(m0, .inr (4, [.ref m1, .ref m2, .int (nI bk), .ref m3, .ref m4, .ref m5, .ref m6, .int sd, .ref m7, .ref m8, .int cl, .int pc, .int op])), (m1, .inl (km1, 93, .inl nw)), (m7, .inl (km7, 1525, .inl vl_7)), (m8, .inl (km8, 24, .inl pl_8))]) hD hS hA [0, 1, 7, 8] rfl
                  refine va_calli (va_runV (As := [.int (nI j_2)]) (rest := []) ⟨hx, hb, hml, hown, hts⟩ (c_X4_dearOf l dC dI m0 m1 m7 m8 m2 m3 m4 m5 m6 km1 km7 km8 H.size bk sd cl pc op nw vl_7 pl_8 j_2 (by first | assumption | omega) (by first | assumption | omega) (by first | assumption | omega) (by first | assumption | omega) ⟨j_5, by omega, ej_5⟩) (cwV 1 hts gX4_hour_X4_dearOf rfl rfl rfl (by decide +kernel) ⟨Nat.le_of_ble_eq_true rfl, Nat.le_of_ble_eq_true rfl⟩) ⟨fun a U g mk q => by obtain ⟨q0, q1, qP, qK, qD⟩ := q; exact ⟨q0, q1, qP, va_K.moved (u := U) (U := U.calling g mk a) (Vm.Alike.refl U.vm) qK, qD⟩, va_recv hKc hPc (ci := 4) (q0 := 0) rfl rfl, fun U hU hW => ⟨rfl, by rw [hU], by rw [hU]; exact hPc, va_K.moved hW.alike hKc, hDc.weaken (fun _ _ _ _ => trivial)⟩⟩ rfl rfl hl.1 rfl (lv_room (Nat.le_of_ble_eq_true rfl)) dX4_hour_137 ⟨Nat.le_of_ble_eq_true rfl, Nat.le_of_ble_eq_true rfl⟩) hS (fun q _ h => hFc q h) hFc (fun r_11 u9 t9 H1 locs ht hvm hw hB hz1 hk1 hS => ?_)
                  refine W.widen (k := 0) (n := 0) (Nat.le_of_ble_eq_true rfl) (Nat.le_of_ble_eq_true rfl) ?_
                  obtain ⟨vl_12, pl_13, pc_14, op_15, h_16, hP1, hK1, hD1⟩ := hB
                  rw [ht] at hP1
                  have hw := hw.symm
                  subst hw
                  obtain ⟨hP, hD⟩ := va_join (wr := [(m2, .inl (km2, 93, .inl ws)), (m3, .inl (km3, 3720, .inl bc)), (m4, .inl (km4, 186, .inl im)), (m5, .inl (km5, 2, .inl isd)), (m6, .inl (km6, 2, .inl kp))]) (w1 := [(m0, .inr (4, [.ref m1, .ref m2, .int (nI bk), .ref m3, .ref m4, .ref m5, .ref m6, .int sd, .ref m7, .ref m8, .int cl, .int pc_14, .int op_15])), (m1, .inl (km1, 93, .inl nw)), (m7, .inl (km7, 1525, .inl vl_12)), (m8, .inl (km8, 24, .inl pl_13))]) hP hD [0, 1, 7, 8] [2, 3, 4, 5, 6] rfl rfl (by decide) (by decide) hk1 hFc hP1 hD1
                  clear hPc hDc hKc hFc hz1 hk1 ht hvm hP1 hK1 hD1 t9
                  generalize H1 = H at hP hS ⊢
                  have hP := hP.sub (ws' := [(m0, .inr (4, [.ref m1, .ref m2, .int (nI bk), .ref m3, .ref m4, .ref m5, .ref m6, .int sd, .ref m7, .ref m8, .int cl, .int pc_14, .int op_15])), (m1, .inl (km1, 93, .inl nw)), (m2, .inl (km2, 93, .inl ws)), (m3, .inl (km3, 3720, .inl bc)), (m4, .inl (km4, 186, .inl im)), (m5, .inl (km5, 2, .inl isd)), (m6, .inl (km6, 2, .inl kp)), (m7, .inl (km7, 1525, .inl vl_12)), (m8, .inl (km8, 24, .inl pl_13))]) [5, 6, 0, 1, 2, 3, 4, 7, 8] rfl
                  have hD := hD.sub (ws' := [(m0, .inr (4, [.ref m1, .ref m2, .int (nI bk), .ref m3, .ref m4, .ref m5, .ref m6, .int sd, .ref m7, .ref m8, .int cl, .int pc_14, .int op_15])), (m1, .inl (km1, 93, .inl nw)), (m2, .inl (km2, 93, .inl ws)), (m3, .inl (km3, 3720, .inl bc)), (m4, .inl (km4, 186, .inl im)), (m5, .inl (km5, 2, .inl isd)), (m6, .inl (km6, 2, .inl kp)), (m7, .inl (km7, 1525, .inl vl_12)), (m8, .inl (km8, 24, .inl pl_13))]) [5, 6, 0, 1, 2, 3, 4, 7, 8] (by decide) rfl
                  subst hQe
                  have hP9 := hP.sub (ws' := [(m0, .inr (4, [.ref m1, .ref m2, .int (nI bk), .ref m3, .ref m4, .ref m5, .ref m6, .int sd, .ref m7, .ref m8, .int cl, .int pc_14, .int op_15])), (m1, .inl (km1, 93, .inl nw)), (m2, .inl (km2, 93, .inl ws)), (m3, .inl (km3, 3720, .inl bc)), (m4, .inl (km4, 186, .inl im)), (m5, .inl (km5, 2, .inl isd)), (m6, .inl (km6, 2, .inl kp)), (m7, .inl (km7, 1525, .inl vl_12)), (m8, .inl (km8, 24, .inl pl_13))]) [0, 1, 2, 3, 4, 5, 6, 7, 8] rfl
                  have hD9 := hD.sub (ws' := [(m0, .inr (4, [.ref m1, .ref m2, .int (nI bk), .ref m3, .ref m4, .ref m5, .ref m6, .int sd, .ref m7, .ref m8, .int cl, .int pc_14, .int op_15])), (m1, .inl (km1, 93, .inl nw)), (m2, .inl (km2, 93, .inl ws)), (m3, .inl (km3, 3720, .inl bc)), (m4, .inl (km4, 186, .inl im)), (m5, .inl (km5, 2, .inl isd)), (m6, .inl (km6, 2, .inl kp)), (m7, .inl (km7, 1525, .inl vl_12)), (m8, .inl (km8, 24, .inl pl_13))]) [0, 1, 2, 3, 4, 5, 6, 7, 8] (by decide) rfl
                  have hK9 := hK.sub (tys' := [(km1, .int), (km2, .int), (km3, .int), (km4, .int), (km5, .int), (km6, .boolean), (km7, .int), (km8, .int)]) [0, 1, 2, 3, 4, 5, 6, 7] rfl
                  subst hAe
                  exact W.iret (v := r_11) hx hb hr (fun t ht hW => ⟨⟨_, _, rfl, rfl, bk, sd, cl, pc_14, op_15, nw, ws, bc, im, isd, vl_12, pl_13, (by first | assumption | omega), (by first | assumption | omega), (by first | assumption | omega), (by first | assumption | omega), (by first | assumption | omega), by rw [ht]; exact hP9, va_K.moved hW.alike hK9, hD9⟩, hS.F ht⟩) hS.2.2 dX4_hour_140
                · have c_114 := (nI_eq (by omega : j_4 < 2 ^ 31) (by omega : 4 < 2 ^ 31)).mp c_114
                  refine lv_aload_n hx hb dX4_hour_117 rfl (lv_at hl 0 rfl) ?_
                  refine va_get (D := (dC, dI)) (ci := 4) (v := .ref m8) (C := RX4) (T := TX4) (N := 13) hx hb hts inX4 hown hK hP 0 rfl rfl 9 (by decide) (hts (.fieldLink RX4 32 "StoreSlopesModel" "plan" "[I") (List.mem_of_getElem? (i := 4) rfl)) (fun _ h9 => h9) rfl dX4_hour_118 ?_
                  refine lv_iload_n hx hb dX4_hour_121 rfl (lv_at hl 1 rfl) ?_
                  refine va_iald hx hb hK hP 8 7 rfl rfl (vp_in_nI (show j_2 < 24 by omega) (by omega)) dX4_hour_122 ?_
                  obtain ⟨j_18, hj_18, ej_18⟩ := bdA_get (n := 60) (N := 24) (f := pl_8) (by assumption) (show j_2 < 24 by omega) (by omega)
                  refine tp_as ej_18 ?_
                  refine lv_aload_n hx hb dX4_hour_123 rfl (lv_at hl 0 rfl) ?_
                  refine lv_iload_n hx hb dX4_hour_124 rfl (lv_at hl 1 rfl) ?_
                  have hPc := hP.sub (ws' := [(m0, .inr (4, [.ref m1, .ref m2, .int (nI bk), .ref m3, .ref m4, .ref m5, .ref m6, .int sd, .ref m7, .ref m8, .int cl, .int pc, .int op])), (m1, .inl (km1, 93, .inl nw)), (m8, .inl (km8, 24, .inl pl_8))]) [0, 1, 8] rfl
                  have hKc := hK.sub (tys' := [(km1, .int), (km8, .int)]) [0, 7] rfl
                  refine va_calli (va_runV (As := [.int (nI j_2)]) (rest := [.int (nI j_18)]) ⟨hx, hb, hml, hown, hts⟩ (c_X4_before l dC dI m0 m1 m8 m2 m3 m4 m5 m6 m7 km1 km8 bk sd cl pc op nw pl_8 j_2 (by first | assumption | omega) (by first | assumption | omega) (by first | assumption | omega) (by first | assumption | omega) ⟨j_5, by omega, ej_5⟩) (cwV 1 hts gX4_hour_X4_before rfl rfl rfl (by decide +kernel) ⟨Nat.le_of_ble_eq_true rfl, Nat.le_of_ble_eq_true rfl⟩) ⟨fun a U g mk q => by obtain ⟨q0, qP, qK⟩ := q; exact ⟨q0, qP, va_K.moved (u := U) (U := U.calling g mk a) (Vm.Alike.refl U.vm) qK⟩, va_recv hKc hPc (ci := 4) (q0 := 0) rfl rfl, fun U hU hW => ⟨rfl, by rw [hU]; exact hPc, va_K.moved hW.alike hKc⟩⟩ rfl rfl hl.1 rfl (lv_room (Nat.le_of_ble_eq_true rfl)) dX4_hour_125 ⟨Nat.le_of_ble_eq_true rfl, Nat.le_of_ble_eq_true rfl⟩) hS (fun q _ h => h.elim) (fun q h => h.elim) (fun r_19 u9 t9 H1 locs ht hvm hw hB hz1 hk1 hS => ?_)
                  refine W.widen (k := 0) (n := 0) (Nat.le_of_ble_eq_true rfl) (Nat.le_of_ble_eq_true rfl) ?_
                  have hP := hP.kept (H1 := H1) (fun k q hk => hk1 q.1 (hP k q hk).lt (fun h => h))
                  clear hz1 hk1 hB ht hvm t9
                  generalize H1 = H at hP hS ⊢
                  have hP : va_P (dC, dI) vwCl [(m0, .inr (4, [.ref m1, .ref m2, .int (nI bk), .ref m3, .ref m4, .ref m5, .ref m6, .int sd, .ref m7, .ref m8, .int cl, .int pc, .int op])), (m1, .inl (km1, 93, .inl nw)), (m2, .inl (km2, 93, .inl ws)), (m3, .inl (km3, 3720, .inl bc)), (m4, .inl (km4, 186, .inl im)), (m5, .inl (km5, 2, .inl isd)), (m6, .inl (km6, 2, .inl kp)), (m7, .inl (km7, 1525, .inl vl_7)), (m8, .inl (km8, 24, .inl pl_8))] H := hP
                  clear hw
                  refine lv_isub hx hb dX4_hour_128 ?_
                  refine tp_any (fun y_20 => ?_)
                  refine lv_bipush (v := nI 100) hx hb dX4_hour_129 (by decide) ?_
                  refine lv_iadd hx hb dX4_hour_131 ?_
                  refine tp_any (fun y_21 => ?_)
                  refine lv_goto (tgt := 140) hx hb dX4_hour_132 (by decide) ?_
                  subst hQe
                  have hP9 := hP.sub (ws' := [(m0, .inr (4, [.ref m1, .ref m2, .int (nI bk), .ref m3, .ref m4, .ref m5, .ref m6, .int sd, .ref m7, .ref m8, .int cl, .int pc, .int op])), (m1, .inl (km1, 93, .inl nw)), (m2, .inl (km2, 93, .inl ws)), (m3, .inl (km3, 3720, .inl bc)), (m4, .inl (km4, 186, .inl im)), (m5, .inl (km5, 2, .inl isd)), (m6, .inl (km6, 2, .inl kp)), (m7, .inl (km7, 1525, .inl vl_7)), (m8, .inl (km8, 24, .inl pl_8))]) [0, 1, 2, 3, 4, 5, 6, 7, 8] rfl
                  have hD9 := hD.sub (ws' := [(m0, .inr (4, [.ref m1, .ref m2, .int (nI bk), .ref m3, .ref m4, .ref m5, .ref m6, .int sd, .ref m7, .ref m8, .int cl, .int pc, .int op])), (m1, .inl (km1, 93, .inl nw)), (m2, .inl (km2, 93, .inl ws)), (m3, .inl (km3, 3720, .inl bc)), (m4, .inl (km4, 186, .inl im)), (m5, .inl (km5, 2, .inl isd)), (m6, .inl (km6, 2, .inl kp)), (m7, .inl (km7, 1525, .inl vl_7)), (m8, .inl (km8, 24, .inl pl_8))]) [0, 1, 2, 3, 4, 5, 6, 7, 8] (by decide) rfl
                  have hK9 := hK.sub (tys' := [(km1, .int), (km2, .int), (km3, .int), (km4, .int), (km5, .int), (km6, .boolean), (km7, .int), (km8, .int)]) [0, 1, 2, 3, 4, 5, 6, 7] rfl
                  subst hAe
                  exact W.iret (v := y_21) hx hb hr (fun t ht hW => ⟨⟨_, _, rfl, rfl, bk, sd, cl, pc, op, nw, ws, bc, im, isd, vl_7, pl_8, (by first | assumption | omega), (by first | assumption | omega), (by first | assumption | omega), (by first | assumption | omega), (by first | assumption | omega), by rw [ht]; exact hP9, va_K.moved hW.alike hK9, hD9⟩, hS.F ht⟩) hS.2.2 dX4_hour_140
              · have c_100 := (nI_eq (by omega : j_4 < 2 ^ 31) (by omega : 3 < 2 ^ 31)).mp c_100
                refine lv_aload_n hx hb dX4_hour_103 rfl (lv_at hl 0 rfl) ?_
                refine va_get (D := (dC, dI)) (ci := 4) (v := .ref m8) (C := RX4) (T := TX4) (N := 13) hx hb hts inX4 hown hK hP 0 rfl rfl 9 (by decide) (hts (.fieldLink RX4 32 "StoreSlopesModel" "plan" "[I") (List.mem_of_getElem? (i := 4) rfl)) (fun _ h9 => h9) rfl dX4_hour_104 ?_
                refine lv_iload_n hx hb dX4_hour_107 rfl (lv_at hl 1 rfl) ?_
                refine va_iald hx hb hK hP 8 7 rfl rfl (vp_in_nI (show j_2 < 24 by omega) (by omega)) dX4_hour_108 ?_
                obtain ⟨j_22, hj_22, ej_22⟩ := bdA_get (n := 60) (N := 24) (f := pl_8) (by assumption) (show j_2 < 24 by omega) (by omega)
                refine tp_as ej_22 ?_
                refine lv_goto (tgt := 140) hx hb dX4_hour_109 (by decide) ?_
                subst hQe
                have hP9 := hP.sub (ws' := [(m0, .inr (4, [.ref m1, .ref m2, .int (nI bk), .ref m3, .ref m4, .ref m5, .ref m6, .int sd, .ref m7, .ref m8, .int cl, .int pc, .int op])), (m1, .inl (km1, 93, .inl nw)), (m2, .inl (km2, 93, .inl ws)), (m3, .inl (km3, 3720, .inl bc)), (m4, .inl (km4, 186, .inl im)), (m5, .inl (km5, 2, .inl isd)), (m6, .inl (km6, 2, .inl kp)), (m7, .inl (km7, 1525, .inl vl_7)), (m8, .inl (km8, 24, .inl pl_8))]) [0, 1, 2, 3, 4, 5, 6, 7, 8] rfl
                have hD9 := hD.sub (ws' := [(m0, .inr (4, [.ref m1, .ref m2, .int (nI bk), .ref m3, .ref m4, .ref m5, .ref m6, .int sd, .ref m7, .ref m8, .int cl, .int pc, .int op])), (m1, .inl (km1, 93, .inl nw)), (m2, .inl (km2, 93, .inl ws)), (m3, .inl (km3, 3720, .inl bc)), (m4, .inl (km4, 186, .inl im)), (m5, .inl (km5, 2, .inl isd)), (m6, .inl (km6, 2, .inl kp)), (m7, .inl (km7, 1525, .inl vl_7)), (m8, .inl (km8, 24, .inl pl_8))]) [0, 1, 2, 3, 4, 5, 6, 7, 8] (by decide) rfl
                have hK9 := hK.sub (tys' := [(km1, .int), (km2, .int), (km3, .int), (km4, .int), (km5, .int), (km6, .boolean), (km7, .int), (km8, .int)]) [0, 1, 2, 3, 4, 5, 6, 7] rfl
                subst hAe
                exact W.iret (v := (nI j_22)) hx hb hr (fun t ht hW => ⟨⟨_, _, rfl, rfl, bk, sd, cl, pc, op, nw, ws, bc, im, isd, vl_7, pl_8, (by first | assumption | omega), (by first | assumption | omega), (by first | assumption | omega), (by first | assumption | omega), (by first | assumption | omega), by rw [ht]; exact hP9, va_K.moved hW.alike hK9, hD9⟩, hS.F ht⟩) hS.2.2 dX4_hour_140
            · refine lv_iconst (v := (-1)) hx hb dX4_hour_96 (by decide) ?_
              subst hQe
              have hP9 := hP.sub (ws' := [(m0, .inr (4, [.ref m1, .ref m2, .int (nI bk), .ref m3, .ref m4, .ref m5, .ref m6, .int sd, .ref m7, .ref m8, .int cl, .int pc, .int op])), (m1, .inl (km1, 93, .inl nw)), (m2, .inl (km2, 93, .inl ws)), (m3, .inl (km3, 3720, .inl bc)), (m4, .inl (km4, 186, .inl im)), (m5, .inl (km5, 2, .inl isd)), (m6, .inl (km6, 2, .inl kp)), (m7, .inl (km7, 1525, .inl vl_7)), (m8, .inl (km8, 24, .inl pl_8))]) [0, 1, 2, 3, 4, 5, 6, 7, 8] rfl
              have hD9 := hD.sub (ws' := [(m0, .inr (4, [.ref m1, .ref m2, .int (nI bk), .ref m3, .ref m4, .ref m5, .ref m6, .int sd, .ref m7, .ref m8, .int cl, .int pc, .int op])), (m1, .inl (km1, 93, .inl nw)), (m2, .inl (km2, 93, .inl ws)), (m3, .inl (km3, 3720, .inl bc)), (m4, .inl (km4, 186, .inl im)), (m5, .inl (km5, 2, .inl isd)), (m6, .inl (km6, 2, .inl kp)), (m7, .inl (km7, 1525, .inl vl_7)), (m8, .inl (km8, 24, .inl pl_8))]) [0, 1, 2, 3, 4, 5, 6, 7, 8] (by decide) rfl
              have hK9 := hK.sub (tys' := [(km1, .int), (km2, .int), (km3, .int), (km4, .int), (km5, .int), (km6, .boolean), (km7, .int), (km8, .int)]) [0, 1, 2, 3, 4, 5, 6, 7] rfl
              subst hAe
              exact W.iret (v := ((-1))) hx hb hr (fun t ht hW => ⟨⟨_, _, rfl, rfl, bk, sd, cl, pc, op, nw, ws, bc, im, isd, vl_7, pl_8, (by first | assumption | omega), (by first | assumption | omega), (by first | assumption | omega), (by first | assumption | omega), (by first | assumption | omega), by rw [ht]; exact hP9, va_K.moved hW.alike hK9, hD9⟩, hS.F ht⟩) hS.2.2 dX4_hour_97
        · have c_70 := (nI_eq (by omega : j_4 < 2 ^ 31) (by omega : 6 < 2 ^ 31)).mp c_70
          refine lv_aload_n hx hb dX4_hour_73 rfl (lv_at hl 0 rfl) ?_
          refine lv_iload_n hx hb dX4_hour_74 rfl (lv_at hl 1 rfl) ?_
          have hPc := hP.sub (ws' := [(m0, .inr (4, [.ref m1, .ref m2, .int (nI bk), .ref m3, .ref m4, .ref m5, .ref m6, .int sd, .ref m7, .ref m8, .int cl, .int pc, .int op])), (m1, .inl (km1, 93, .inl nw)), (m7, .inl (km7, 1525, .inl vl))]) [0, 1, 7] rfl
          have hKc := hK.sub (tys' := [(km1, .int), (km7, .int)]) [0, 6] rfl
          have hDc := hD.sub (ws' := [(m0, .inr (4, [.ref m1, .ref m2, .int (nI bk), .ref m3, .ref m4, .ref m5, .ref m6, .int sd, .ref m7, .ref m8, .int cl, .int pc, .int op])), (m1, .inl (km1, 93, .inl nw)), (m7, .inl (km7, 1525, .inl vl))]) [0, 1, 7] (by decide) rfl
          have hFc := va_free (wc := [(m0, .inr (4, [.ref m1, .ref m2, .int (nI bk), .ref m3, .ref m4, .ref m5, .ref m6, .int sd, .ref m7, .ref m8, .int cl, .int pc, .int op])), (m1, .inl (km1, 93, .inl nw)), (m7, .inl (km7, 1525, .inl vl))]) hD hS hA [0, 1, 7] rfl
          refine va_calli (va_runV (As := [.int (nI j_2)]) (rest := []) ⟨hx, hb, hml, hown, hts⟩ (c_X4_bendsOf l dC dI m0 m1 m7 m2 m3 m4 m5 m6 m8 km1 km7 H.size bk sd cl pc op nw vl j_2 (by first | assumption | omega) (by first | assumption | omega) (by first | assumption | omega)) (cwV 1 hts gX4_hour_X4_bendsOf rfl rfl rfl (by decide +kernel) ⟨Nat.le_of_ble_eq_true rfl, Nat.le_of_ble_eq_true rfl⟩) ⟨fun a U g mk q => by obtain ⟨q0, q1, qP, qK, qD⟩ := q; exact ⟨q0, q1, qP, va_K.moved (u := U) (U := U.calling g mk a) (Vm.Alike.refl U.vm) qK, qD⟩, va_recv hKc hPc (ci := 4) (q0 := 0) rfl rfl, fun U hU hW => ⟨rfl, by rw [hU], by rw [hU]; exact hPc, va_K.moved hW.alike hKc, hDc.weaken (fun _ _ _ _ => trivial)⟩⟩ rfl rfl hl.1 rfl (lv_room (Nat.le_of_ble_eq_true rfl)) dX4_hour_75 ⟨Nat.le_of_ble_eq_true rfl, Nat.le_of_ble_eq_true rfl⟩) hS (fun q _ h => hFc q h) hFc (fun r_23 u9 t9 H1 locs ht hvm hw hB hz1 hk1 hS => ?_)
          refine W.widen (k := 0) (n := 0) (Nat.le_of_ble_eq_true rfl) (Nat.le_of_ble_eq_true rfl) ?_
          obtain ⟨vl_24, hP1, hK1, hD1⟩ := hB
          rw [ht] at hP1
          have hw := hw.symm
          subst hw
          obtain ⟨hP, hD⟩ := va_join (wr := [(m2, .inl (km2, 93, .inl ws)), (m3, .inl (km3, 3720, .inl bc)), (m4, .inl (km4, 186, .inl im)), (m5, .inl (km5, 2, .inl isd)), (m6, .inl (km6, 2, .inl kp)), (m8, .inl (km8, 24, .inl pl))]) (w1 := [(m0, .inr (4, [.ref m1, .ref m2, .int (nI bk), .ref m3, .ref m4, .ref m5, .ref m6, .int sd, .ref m7, .ref m8, .int cl, .int pc, .int op])), (m1, .inl (km1, 93, .inl nw)), (m7, .inl (km7, 1525, .inl vl_24))]) hP hD [0, 1, 7] [2, 3, 4, 5, 6, 8] rfl rfl (by decide) (by decide) hk1 hFc hP1 hD1
          clear hPc hDc hKc hFc hz1 hk1 ht hvm hP1 hK1 hD1 t9
          generalize H1 = H at hP hS ⊢
          have hP := hP.sub (ws' := [(m0, .inr (4, [.ref m1, .ref m2, .int (nI bk), .ref m3, .ref m4, .ref m5, .ref m6, .int sd, .ref m7, .ref m8, .int cl, .int pc, .int op])), (m1, .inl (km1, 93, .inl nw)), (m2, .inl (km2, 93, .inl ws)), (m3, .inl (km3, 3720, .inl bc)), (m4, .inl (km4, 186, .inl im)), (m5, .inl (km5, 2, .inl isd)), (m6, .inl (km6, 2, .inl kp)), (m7, .inl (km7, 1525, .inl vl_24)), (m8, .inl (km8, 24, .inl pl))]) [6, 7, 0, 1, 2, 3, 4, 8, 5] rfl
          have hD := hD.sub (ws' := [(m0, .inr (4, [.ref m1, .ref m2, .int (nI bk), .ref m3, .ref m4, .ref m5, .ref m6, .int sd, .ref m7, .ref m8, .int cl, .int pc, .int op])), (m1, .inl (km1, 93, .inl nw)), (m2, .inl (km2, 93, .inl ws)), (m3, .inl (km3, 3720, .inl bc)), (m4, .inl (km4, 186, .inl im)), (m5, .inl (km5, 2, .inl isd)), (m6, .inl (km6, 2, .inl kp)), (m7, .inl (km7, 1525, .inl vl_24)), (m8, .inl (km8, 24, .inl pl))]) [6, 7, 0, 1, 2, 3, 4, 8, 5] (by decide) rfl
          subst hQe
          have hP9 := hP.sub (ws' := [(m0, .inr (4, [.ref m1, .ref m2, .int (nI bk), .ref m3, .ref m4, .ref m5, .ref m6, .int sd, .ref m7, .ref m8, .int cl, .int pc, .int op])), (m1, .inl (km1, 93, .inl nw)), (m2, .inl (km2, 93, .inl ws)), (m3, .inl (km3, 3720, .inl bc)), (m4, .inl (km4, 186, .inl im)), (m5, .inl (km5, 2, .inl isd)), (m6, .inl (km6, 2, .inl kp)), (m7, .inl (km7, 1525, .inl vl_24)), (m8, .inl (km8, 24, .inl pl))]) [0, 1, 2, 3, 4, 5, 6, 7, 8] rfl
          have hD9 := hD.sub (ws' := [(m0, .inr (4, [.ref m1, .ref m2, .int (nI bk), .ref m3, .ref m4, .ref m5, .ref m6, .int sd, .ref m7, .ref m8, .int cl, .int pc, .int op])), (m1, .inl (km1, 93, .inl nw)), (m2, .inl (km2, 93, .inl ws)), (m3, .inl (km3, 3720, .inl bc)), (m4, .inl (km4, 186, .inl im)), (m5, .inl (km5, 2, .inl isd)), (m6, .inl (km6, 2, .inl kp)), (m7, .inl (km7, 1525, .inl vl_24)), (m8, .inl (km8, 24, .inl pl))]) [0, 1, 2, 3, 4, 5, 6, 7, 8] (by decide) rfl
          have hK9 := hK.sub (tys' := [(km1, .int), (km2, .int), (km3, .int), (km4, .int), (km5, .int), (km6, .boolean), (km7, .int), (km8, .int)]) [0, 1, 2, 3, 4, 5, 6, 7] rfl
          subst hAe
          exact W.iret (v := r_23) hx hb hr (fun t ht hW => ⟨⟨_, _, rfl, rfl, bk, sd, cl, pc, op, nw, ws, bc, im, isd, vl_24, pl, (by first | assumption | omega), (by first | assumption | omega), (by first | assumption | omega), (by first | assumption | omega), (by first | assumption | omega), by rw [ht]; exact hP9, va_K.moved hW.alike hK9, hD9⟩, hS.F ht⟩) hS.2.2 dX4_hour_78
      · have c_25 := (not_congr (nI_leI (by omega : 3 < 2 ^ 31) (by omega : j_4 < 2 ^ 31))).mp c_25
        refine lv_iload_n hx hb dX4_hour_28 rfl (lv_at hl 2 rfl) ?_
        refine lv_if_ne (tgt := 44) hx hb dX4_hour_29 (by decide) (fun c_29 => ?_) (fun c_29 => ?_)
        · have c_29 := (not_congr (z_eq (by omega : j_4 < 2 ^ 31))).mp c_29
          refine lv_iload_n hx hb dX4_hour_44 rfl (lv_at hl 2 rfl) ?_
          refine lv_iconst (v := nI 1) hx hb dX4_hour_45 (by decide) ?_
          refine lv_icmp_ne (tgt := 61) hx hb dX4_hour_46 (by decide) (fun c_46 => ?_) (fun c_46 => ?_)
          · have c_46 := (not_congr (nI_eq (by omega : j_4 < 2 ^ 31) (by omega : 1 < 2 ^ 31))).mp c_46
            refine lv_aload_n hx hb dX4_hour_61 rfl (lv_at hl 0 rfl) ?_
            refine lv_iload_n hx hb dX4_hour_62 rfl (lv_at hl 1 rfl) ?_
            have hPc := hP.sub (ws' := [(m0, .inr (4, [.ref m1, .ref m2, .int (nI bk), .ref m3, .ref m4, .ref m5, .ref m6, .int sd, .ref m7, .ref m8, .int cl, .int pc, .int op])), (m1, .inl (km1, 93, .inl nw))]) [0, 1] rfl
            have hKc := hK.sub (tys' := [(km1, .int)]) [0] rfl
            refine va_calli (va_runV (As := [.int (nI j_2)]) (rest := []) ⟨hx, hb, hml, hown, hts⟩ (c_X4_lawOf l dC dI m0 m1 m2 m3 m4 m5 m6 m7 m8 km1 bk sd cl pc op nw (nI j_2) (by first | assumption | omega) (by first | assumption | omega) ) (cwV 1 hts gX4_hour_X4_lawOf rfl rfl rfl (by decide +kernel) ⟨Nat.le_of_ble_eq_true rfl, Nat.le_of_ble_eq_true rfl⟩) ⟨fun a U g mk q => by obtain ⟨q0, qP, qK⟩ := q; exact ⟨q0, qP, va_K.moved (u := U) (U := U.calling g mk a) (Vm.Alike.refl U.vm) qK⟩, va_recv hKc hPc (ci := 4) (q0 := 0) rfl rfl, fun U hU hW => ⟨rfl, by rw [hU]; exact hPc, va_K.moved hW.alike hKc⟩⟩ rfl rfl hl.1 rfl (lv_room (Nat.le_of_ble_eq_true rfl)) dX4_hour_63 ⟨Nat.le_of_ble_eq_true rfl, Nat.le_of_ble_eq_true rfl⟩) hS (fun q _ h => h.elim) (fun q h => h.elim) (fun r_26 u9 t9 H1 locs ht hvm hw hB hz1 hk1 hS => ?_)
            refine W.widen (k := 0) (n := 0) (Nat.le_of_ble_eq_true rfl) (Nat.le_of_ble_eq_true rfl) ?_
            have hP := hP.kept (H1 := H1) (fun k q hk => hk1 q.1 (hP k q hk).lt (fun h => h))
            clear hz1 hk1 hB ht hvm t9
            generalize H1 = H at hP hS ⊢
            have hP : va_P (dC, dI) vwCl [(m0, .inr (4, [.ref m1, .ref m2, .int (nI bk), .ref m3, .ref m4, .ref m5, .ref m6, .int sd, .ref m7, .ref m8, .int cl, .int pc, .int op])), (m1, .inl (km1, 93, .inl nw)), (m2, .inl (km2, 93, .inl ws)), (m3, .inl (km3, 3720, .inl bc)), (m4, .inl (km4, 186, .inl im)), (m5, .inl (km5, 2, .inl isd)), (m6, .inl (km6, 2, .inl kp)), (m7, .inl (km7, 1525, .inl vl)), (m8, .inl (km8, 24, .inl pl))] H := hP
            clear hw
            subst hQe
            have hP9 := hP.sub (ws' := [(m0, .inr (4, [.ref m1, .ref m2, .int (nI bk), .ref m3, .ref m4, .ref m5, .ref m6, .int sd, .ref m7, .ref m8, .int cl, .int pc, .int op])), (m1, .inl (km1, 93, .inl nw)), (m2, .inl (km2, 93, .inl ws)), (m3, .inl (km3, 3720, .inl bc)), (m4, .inl (km4, 186, .inl im)), (m5, .inl (km5, 2, .inl isd)), (m6, .inl (km6, 2, .inl kp)), (m7, .inl (km7, 1525, .inl vl)), (m8, .inl (km8, 24, .inl pl))]) [0, 1, 2, 3, 4, 5, 6, 7, 8] rfl
            have hD9 := hD.sub (ws' := [(m0, .inr (4, [.ref m1, .ref m2, .int (nI bk), .ref m3, .ref m4, .ref m5, .ref m6, .int sd, .ref m7, .ref m8, .int cl, .int pc, .int op])), (m1, .inl (km1, 93, .inl nw)), (m2, .inl (km2, 93, .inl ws)), (m3, .inl (km3, 3720, .inl bc)), (m4, .inl (km4, 186, .inl im)), (m5, .inl (km5, 2, .inl isd)), (m6, .inl (km6, 2, .inl kp)), (m7, .inl (km7, 1525, .inl vl)), (m8, .inl (km8, 24, .inl pl))]) [0, 1, 2, 3, 4, 5, 6, 7, 8] (by decide) rfl
            have hK9 := hK.sub (tys' := [(km1, .int), (km2, .int), (km3, .int), (km4, .int), (km5, .int), (km6, .boolean), (km7, .int), (km8, .int)]) [0, 1, 2, 3, 4, 5, 6, 7] rfl
            subst hAe
            exact W.iret (v := r_26) hx hb hr (fun t ht hW => ⟨⟨_, _, rfl, rfl, bk, sd, cl, pc, op, nw, ws, bc, im, isd, vl, pl, (by first | assumption | omega), (by first | assumption | omega), (by first | assumption | omega), (by first | assumption | omega), (by first | assumption | omega), by rw [ht]; exact hP9, va_K.moved hW.alike hK9, hD9⟩, hS.F ht⟩) hS.2.2 dX4_hour_66
          · have c_46 := (nI_eq (by omega : j_4 < 2 ^ 31) (by omega : 1 < 2 ^ 31)).mp c_46
            refine lv_aload_n hx hb dX4_hour_49 rfl (lv_at hl 0 rfl) ?_
            refine va_get (D := (dC, dI)) (ci := 4) (v := .ref m1) (C := RX4) (T := TX4) (N := 13) hx hb hts inX4 hown hK hP 0 rfl rfl 0 (by decide) (hts (.fieldLink RX4 7 "StoreSlopesModel" "now" "[I") (List.mem_of_getElem? (i := 3) rfl)) (fun _ h9 => h9) rfl dX4_hour_50 ?_
            refine lv_bipush (v := nI 68) hx hb dX4_hour_53 (by decide) ?_
            refine lv_iload_n hx hb dX4_hour_55 rfl (lv_at hl 1 rfl) ?_
            refine lv_iadd hx hb dX4_hour_56 ?_
            refine tp_as (nI_add 68 j_2) ?_
            obtain ⟨j_27, hj_27, ej_27⟩ := (show okN nw by assumption).2.2.2.2.2 j_2 (by omega)
            refine va_iald hx hb hK hP 1 0 rfl rfl (vp_in_nI (show 68 + j_2 < 93 by omega) (by omega)) dX4_hour_57 ?_
            refine tp_as (cl_as (by omega) ej_27) ?_
            refine lv_goto (tgt := 66) hx hb dX4_hour_58 (by decide) ?_
            subst hQe
            have hP9 := hP.sub (ws' := [(m0, .inr (4, [.ref m1, .ref m2, .int (nI bk), .ref m3, .ref m4, .ref m5, .ref m6, .int sd, .ref m7, .ref m8, .int cl, .int pc, .int op])), (m1, .inl (km1, 93, .inl nw)), (m2, .inl (km2, 93, .inl ws)), (m3, .inl (km3, 3720, .inl bc)), (m4, .inl (km4, 186, .inl im)), (m5, .inl (km5, 2, .inl isd)), (m6, .inl (km6, 2, .inl kp)), (m7, .inl (km7, 1525, .inl vl)), (m8, .inl (km8, 24, .inl pl))]) [0, 1, 2, 3, 4, 5, 6, 7, 8] rfl
            have hD9 := hD.sub (ws' := [(m0, .inr (4, [.ref m1, .ref m2, .int (nI bk), .ref m3, .ref m4, .ref m5, .ref m6, .int sd, .ref m7, .ref m8, .int cl, .int pc, .int op])), (m1, .inl (km1, 93, .inl nw)), (m2, .inl (km2, 93, .inl ws)), (m3, .inl (km3, 3720, .inl bc)), (m4, .inl (km4, 186, .inl im)), (m5, .inl (km5, 2, .inl isd)), (m6, .inl (km6, 2, .inl kp)), (m7, .inl (km7, 1525, .inl vl)), (m8, .inl (km8, 24, .inl pl))]) [0, 1, 2, 3, 4, 5, 6, 7, 8] (by decide) rfl
            have hK9 := hK.sub (tys' := [(km1, .int), (km2, .int), (km3, .int), (km4, .int), (km5, .int), (km6, .boolean), (km7, .int), (km8, .int)]) [0, 1, 2, 3, 4, 5, 6, 7] rfl
            subst hAe
            exact W.iret (v := (nI j_27)) hx hb hr (fun t ht hW => ⟨⟨_, _, rfl, rfl, bk, sd, cl, pc, op, nw, ws, bc, im, isd, vl, pl, (by first | assumption | omega), (by first | assumption | omega), (by first | assumption | omega), (by first | assumption | omega), (by first | assumption | omega), by rw [ht]; exact hP9, va_K.moved hW.alike hK9, hD9⟩, hS.F ht⟩) hS.2.2 dX4_hour_66
        · have c_29 := (z_eq (by omega : j_4 < 2 ^ 31)).mp c_29
          refine lv_aload_n hx hb dX4_hour_32 rfl (lv_at hl 0 rfl) ?_
          refine lv_iload_n hx hb dX4_hour_33 rfl (lv_at hl 1 rfl) ?_
          have hPc := hP.sub (ws' := [(m0, .inr (4, [.ref m1, .ref m2, .int (nI bk), .ref m3, .ref m4, .ref m5, .ref m6, .int sd, .ref m7, .ref m8, .int cl, .int pc, .int op])), (m1, .inl (km1, 93, .inl nw))]) [0, 1] rfl
          have hKc := hK.sub (tys' := [(km1, .int)]) [0] rfl
          refine va_calli (va_runV (As := [.int (nI j_2)]) (rest := []) ⟨hx, hb, hml, hown, hts⟩ (c_X4_toldPrice l dC dI m0 m1 m2 m3 m4 m5 m6 m7 m8 km1 bk sd cl pc op nw (nI j_2) (by first | assumption | omega) (by first | assumption | omega) ) (cwV 1 hts gX4_hour_X4_toldPrice rfl rfl rfl (by decide +kernel) ⟨Nat.le_of_ble_eq_true rfl, Nat.le_of_ble_eq_true rfl⟩) ⟨fun a U g mk q => by obtain ⟨q0, qP, qK⟩ := q; exact ⟨q0, qP, va_K.moved (u := U) (U := U.calling g mk a) (Vm.Alike.refl U.vm) qK⟩, va_recv hKc hPc (ci := 4) (q0 := 0) rfl rfl, fun U hU hW => ⟨rfl, by rw [hU]; exact hPc, va_K.moved hW.alike hKc⟩⟩ rfl rfl hl.1 rfl (lv_room (Nat.le_of_ble_eq_true rfl)) dX4_hour_34 ⟨Nat.le_of_ble_eq_true rfl, Nat.le_of_ble_eq_true rfl⟩) hS (fun q _ h => h.elim) (fun q h => h.elim) (fun r_28 u9 t9 H1 locs ht hvm hw hB hz1 hk1 hS => ?_)
          refine W.widen (k := 0) (n := 0) (Nat.le_of_ble_eq_true rfl) (Nat.le_of_ble_eq_true rfl) ?_
          have hP := hP.kept (H1 := H1) (fun k q hk => hk1 q.1 (hP k q hk).lt (fun h => h))
          clear hz1 hk1 hB ht hvm t9
          generalize H1 = H at hP hS ⊢
          have hP : va_P (dC, dI) vwCl [(m0, .inr (4, [.ref m1, .ref m2, .int (nI bk), .ref m3, .ref m4, .ref m5, .ref m6, .int sd, .ref m7, .ref m8, .int cl, .int pc, .int op])), (m1, .inl (km1, 93, .inl nw)), (m2, .inl (km2, 93, .inl ws)), (m3, .inl (km3, 3720, .inl bc)), (m4, .inl (km4, 186, .inl im)), (m5, .inl (km5, 2, .inl isd)), (m6, .inl (km6, 2, .inl kp)), (m7, .inl (km7, 1525, .inl vl)), (m8, .inl (km8, 24, .inl pl))] H := hP
          clear hw
          refine lv_sipush (v := nI 10000) hx hb dX4_hour_37 (by decide) ?_
          refine lv_iadd hx hb dX4_hour_40 ?_
          refine tp_any (fun y_29 => ?_)
          refine lv_goto (tgt := 66) hx hb dX4_hour_41 (by decide) ?_
          subst hQe
          have hP9 := hP.sub (ws' := [(m0, .inr (4, [.ref m1, .ref m2, .int (nI bk), .ref m3, .ref m4, .ref m5, .ref m6, .int sd, .ref m7, .ref m8, .int cl, .int pc, .int op])), (m1, .inl (km1, 93, .inl nw)), (m2, .inl (km2, 93, .inl ws)), (m3, .inl (km3, 3720, .inl bc)), (m4, .inl (km4, 186, .inl im)), (m5, .inl (km5, 2, .inl isd)), (m6, .inl (km6, 2, .inl kp)), (m7, .inl (km7, 1525, .inl vl)), (m8, .inl (km8, 24, .inl pl))]) [0, 1, 2, 3, 4, 5, 6, 7, 8] rfl
          have hD9 := hD.sub (ws' := [(m0, .inr (4, [.ref m1, .ref m2, .int (nI bk), .ref m3, .ref m4, .ref m5, .ref m6, .int sd, .ref m7, .ref m8, .int cl, .int pc, .int op])), (m1, .inl (km1, 93, .inl nw)), (m2, .inl (km2, 93, .inl ws)), (m3, .inl (km3, 3720, .inl bc)), (m4, .inl (km4, 186, .inl im)), (m5, .inl (km5, 2, .inl isd)), (m6, .inl (km6, 2, .inl kp)), (m7, .inl (km7, 1525, .inl vl)), (m8, .inl (km8, 24, .inl pl))]) [0, 1, 2, 3, 4, 5, 6, 7, 8] (by decide) rfl
          have hK9 := hK.sub (tys' := [(km1, .int), (km2, .int), (km3, .int), (km4, .int), (km5, .int), (km6, .boolean), (km7, .int), (km8, .int)]) [0, 1, 2, 3, 4, 5, 6, 7] rfl
          subst hAe
          exact W.iret (v := y_29) hx hb hr (fun t ht hW => ⟨⟨_, _, rfl, rfl, bk, sd, cl, pc, op, nw, ws, bc, im, isd, vl, pl, (by first | assumption | omega), (by first | assumption | omega), (by first | assumption | omega), (by first | assumption | omega), (by first | assumption | omega), by rw [ht]; exact hP9, va_K.moved hW.alike hK9, hD9⟩, hS.F ht⟩) hS.2.2 dX4_hour_66
    · have nc_17 := b_0 wr_3 c_17
      refine lv_ldc (own := RX4) (v := (-1000000002)) hx hb hown (hts (.constant RX4 110 (-1000000002)) (List.mem_of_getElem? (i := 2) rfl)) dX4_hour_20 ?_
      subst hQe
      have hP9 := hP.sub (ws' := [(m0, .inr (4, [.ref m1, .ref m2, .int (nI bk), .ref m3, .ref m4, .ref m5, .ref m6, .int sd, .ref m7, .ref m8, .int cl, .int pc, .int op])), (m1, .inl (km1, 93, .inl nw)), (m2, .inl (km2, 93, .inl ws)), (m3, .inl (km3, 3720, .inl bc)), (m4, .inl (km4, 186, .inl im)), (m5, .inl (km5, 2, .inl isd)), (m6, .inl (km6, 2, .inl kp)), (m7, .inl (km7, 1525, .inl vl)), (m8, .inl (km8, 24, .inl pl))]) [0, 1, 2, 3, 4, 5, 6, 7, 8] rfl
      have hD9 := hD.sub (ws' := [(m0, .inr (4, [.ref m1, .ref m2, .int (nI bk), .ref m3, .ref m4, .ref m5, .ref m6, .int sd, .ref m7, .ref m8, .int cl, .int pc, .int op])), (m1, .inl (km1, 93, .inl nw)), (m2, .inl (km2, 93, .inl ws)), (m3, .inl (km3, 3720, .inl bc)), (m4, .inl (km4, 186, .inl im)), (m5, .inl (km5, 2, .inl isd)), (m6, .inl (km6, 2, .inl kp)), (m7, .inl (km7, 1525, .inl vl)), (m8, .inl (km8, 24, .inl pl))]) [0, 1, 2, 3, 4, 5, 6, 7, 8] (by decide) rfl
      have hK9 := hK.sub (tys' := [(km1, .int), (km2, .int), (km3, .int), (km4, .int), (km5, .int), (km6, .boolean), (km7, .int), (km8, .int)]) [0, 1, 2, 3, 4, 5, 6, 7] rfl
      subst hAe
      exact W.iret (v := ((-1000000002))) hx hb hr (fun t ht hW => ⟨⟨_, _, rfl, rfl, bk, sd, cl, pc, op, nw, ws, bc, im, isd, vl, pl, (by first | assumption | omega), (by first | assumption | omega), (by first | assumption | omega), (by first | assumption | omega), (by first | assumption | omega), by rw [ht]; exact hP9, va_K.moved hW.alike hK9, hD9⟩, hS.F ht⟩) hS.2.2 dX4_hour_22
  · have nc_4 := b_0 wr_1 c_4
    refine lv_ldc (own := RX4) (v := (-1000000001)) hx hb hown (hts (.constant RX4 109 (-1000000001)) (List.mem_of_getElem? (i := 1) rfl)) dX4_hour_7 ?_
    subst hQe
    have hP9 := hP.sub (ws' := [(m0, .inr (4, [.ref m1, .ref m2, .int (nI bk), .ref m3, .ref m4, .ref m5, .ref m6, .int sd, .ref m7, .ref m8, .int cl, .int pc, .int op])), (m1, .inl (km1, 93, .inl nw)), (m2, .inl (km2, 93, .inl ws)), (m3, .inl (km3, 3720, .inl bc)), (m4, .inl (km4, 186, .inl im)), (m5, .inl (km5, 2, .inl isd)), (m6, .inl (km6, 2, .inl kp)), (m7, .inl (km7, 1525, .inl vl)), (m8, .inl (km8, 24, .inl pl))]) [0, 1, 2, 3, 4, 5, 6, 7, 8] rfl
    have hD9 := hD.sub (ws' := [(m0, .inr (4, [.ref m1, .ref m2, .int (nI bk), .ref m3, .ref m4, .ref m5, .ref m6, .int sd, .ref m7, .ref m8, .int cl, .int pc, .int op])), (m1, .inl (km1, 93, .inl nw)), (m2, .inl (km2, 93, .inl ws)), (m3, .inl (km3, 3720, .inl bc)), (m4, .inl (km4, 186, .inl im)), (m5, .inl (km5, 2, .inl isd)), (m6, .inl (km6, 2, .inl kp)), (m7, .inl (km7, 1525, .inl vl)), (m8, .inl (km8, 24, .inl pl))]) [0, 1, 2, 3, 4, 5, 6, 7, 8] (by decide) rfl
    have hK9 := hK.sub (tys' := [(km1, .int), (km2, .int), (km3, .int), (km4, .int), (km5, .int), (km6, .boolean), (km7, .int), (km8, .int)]) [0, 1, 2, 3, 4, 5, 6, 7] rfl
    subst hAe
    exact W.iret (v := ((-1000000001))) hx hb hr (fun t ht hW => ⟨⟨_, _, rfl, rfl, bk, sd, cl, pc, op, nw, ws, bc, im, isd, vl, pl, (by first | assumption | omega), (by first | assumption | omega), (by first | assumption | omega), (by first | assumption | omega), (by first | assumption | omega), by rw [ht]; exact hP9, va_K.moved hW.alike hK9, hD9⟩, hS.F ht⟩) hS.2.2 dX4_hour_9
set_option maxHeartbeats 4000000 in
set_option maxRecDepth 100000 in
theorem c_X4_value (l : Launch) (dC : Nat → ClassId) (dI : Nat → Nat → Nat) (m0 m1 m2 m3 m4 m5 m6 m7 m8 : Nat) (km1 km2 km3 km4 km5 km6 km7 km8 : ClassId) (sz : Nat) (bk : Nat) (sd : Int32) (cl : Int32) (pc : Int32) (op : Int32) (nw : Nat → Int32) (ws : Nat → Int32) (bc : Nat → Int32) (im : Nat → Int32) (isd : Nat → Int32) (kp : Nat → Int32) (vl : Nat → Int32) (pl : Nat → Int32) (h : Int32) (a : Int32) (i0 : bk ≤ 40) (i1 : okN nw) (i2 : okB 40 bc) (i3 : okB 2 im) (i4 : bdA 60 24 pl) : Met l yX4_value wsX4_value ({ frames := 6, cells := 0, slots := 0, locals := 142 }) (va_Pc [.ref m0, .int h, .int a] (fun U => U.heap.size = sz ∧ va_P (dC, dI) vwCl [(m0, .inr (4, [.ref m1, .ref m2, .int (nI bk), .ref m3, .ref m4, .ref m5, .ref m6, .int sd, .ref m7, .ref m8, .int cl, .int pc, .int op])), (m1, .inl (km1, 93, .inl nw)), (m2, .inl (km2, 93, .inl ws)), (m3, .inl (km3, 3720, .inl bc)), (m4, .inl (km4, 186, .inl im)), (m5, .inl (km5, 2, .inl isd)), (m6, .inl (km6, 2, .inl kp)), (m7, .inl (km7, 1525, .inl vl)), (m8, .inl (km8, 24, .inl pl))] U.heap ∧ va_K (dC, dI) vwCl [(km1, .int), (km2, .int), (km3, .int), (km4, .int), (km5, .int), (km6, .boolean), (km7, .int), (km8, .int)] U ∧ va_D (fun _ => True) [(m0, .inr (4, [.ref m1, .ref m2, .int (nI bk), .ref m3, .ref m4, .ref m5, .ref m6, .int sd, .ref m7, .ref m8, .int cl, .int pc, .int op])), (m1, .inl (km1, 93, .inl nw)), (m2, .inl (km2, 93, .inl ws)), (m3, .inl (km3, 3720, .inl bc)), (m4, .inl (km4, 186, .inl im)), (m5, .inl (km5, 2, .inl isd)), (m6, .inl (km6, 2, .inl kp)), (m7, .inl (km7, 1525, .inl vl)), (m8, .inl (km8, 24, .inl pl))])) (va_Qi (fun (r u : Int32) => u = r) (fun r t => ∃ (bk' : Nat) (sd' : Int32) (cl' : Int32) (pc' : Int32) (op' : Int32) (nw' : Nat → Int32) (ws' : Nat → Int32) (bc' : Nat → Int32) (im' : Nat → Int32) (isd' : Nat → Int32) (vl' : Nat → Int32) (pl' : Nat → Int32), bk' ≤ 40 ∧ okN nw' ∧ okB 40 bc' ∧ okB 2 im' ∧ bdA 60 24 pl' ∧ va_P (dC, dI) vwCl [(m0, .inr (4, [.ref m1, .ref m2, .int (nI bk'), .ref m3, .ref m4, .ref m5, .ref m6, .int sd', .ref m7, .ref m8, .int cl', .int pc', .int op'])), (m1, .inl (km1, 93, .inl nw')), (m2, .inl (km2, 93, .inl ws')), (m3, .inl (km3, 3720, .inl bc')), (m4, .inl (km4, 186, .inl im')), (m5, .inl (km5, 2, .inl isd')), (m6, .inl (km6, 2, .inl kp)), (m7, .inl (km7, 1525, .inl vl')), (m8, .inl (km8, 24, .inl pl'))] t.heap ∧ va_K (dC, dI) vwCl [(km1, .int), (km2, .int), (km3, .int), (km4, .int), (km5, .int), (km6, .boolean), (km7, .int), (km8, .int)] t ∧ va_D (va_A [(m0, .inr (4, [.ref m1, .ref m2, .int (nI bk), .ref m3, .ref m4, .ref m5, .ref m6, .int sd, .ref m7, .ref m8, .int cl, .int pc, .int op])), (m1, .inl (km1, 93, .inl nw)), (m2, .inl (km2, 93, .inl ws)), (m3, .inl (km3, 3720, .inl bc)), (m4, .inl (km4, 186, .inl im)), (m5, .inl (km5, 2, .inl isd)), (m6, .inl (km6, 2, .inl kp)), (m7, .inl (km7, 1525, .inl vl)), (m8, .inl (km8, 24, .inl pl))] sz) [(m0, .inr (4, [.ref m1, .ref m2, .int (nI bk'), .ref m3, .ref m4, .ref m5, .ref m6, .int sd', .ref m7, .ref m8, .int cl', .int pc', .int op'])), (m1, .inl (km1, 93, .inl nw')), (m2, .inl (km2, 93, .inl ws')), (m3, .inl (km3, 3720, .inl bc')), (m4, .inl (km4, 186, .inl im')), (m5, .inl (km5, 2, .inl isd')), (m6, .inl (km6, 2, .inl kp)), (m7, .inl (km7, 1525, .inl vl')), (m8, .inl (km8, 24, .inl pl'))]) (va_A [(m0, .inr (4, [.ref m1, .ref m2, .int (nI bk), .ref m3, .ref m4, .ref m5, .ref m6, .int sd, .ref m7, .ref m8, .int cl, .int pc, .int op])), (m1, .inl (km1, 93, .inl nw)), (m2, .inl (km2, 93, .inl ws)), (m3, .inl (km3, 3720, .inl bc)), (m4, .inl (km4, 186, .inl im)), (m5, .inl (km5, 2, .inl isd)), (m6, .inl (km6, 2, .inl kp)), (m7, .inl (km7, 1525, .inl vl)), (m8, .inl (km8, 24, .inl pl))] sz)) 0 0 (va_A [(m0, .inr (4, [.ref m1, .ref m2, .int (nI bk), .ref m3, .ref m4, .ref m5, .ref m6, .int sd, .ref m7, .ref m8, .int cl, .int pc, .int op])), (m1, .inl (km1, 93, .inl nw)), (m2, .inl (km2, 93, .inl ws)), (m3, .inl (km3, 3720, .inl bc)), (m4, .inl (km4, 186, .inl im)), (m5, .inl (km5, 2, .inl isd)), (m6, .inl (km6, 2, .inl kp)), (m7, .inl (km7, 1525, .inl vl)), (m8, .inl (km8, 24, .inl pl))] sz) := by
  refine Met.ofW (cc := cX4_value) (maxL := 3) (ret := (some .int)) (by decide) rfl ?_
  intro p e s m args below meth c s₁ B hml hv
  obtain ⟨rfl, hsz, hP, hK, hD0⟩ := hv
  have hx := B.exec
  have hb := B.bytes
  have hr := B.returns
  have hts := atoms_spec (ws := wsX4_value) B.pre
  have hown : s.vm.findClass RX4 = some m.cls := findClass_of_methodNamed B.named
  have hlocks := B.notSynchronized
  have inX4 : ∀ w ∈ wsX40, w ∈ wsX4_value := fun _ h => List.mem_cons_of_mem _ (List.mem_append_right _ h)
  subst hsz
  have hD := hD0.self (sz := s.heap.size)
  generalize hAe : va_A [(m0, .inr (4, [.ref m1, .ref m2, .int (nI bk), .ref m3, .ref m4, .ref m5, .ref m6, .int sd, .ref m7, .ref m8, .int cl, .int pc, .int op])), (m1, .inl (km1, 93, .inl nw)), (m2, .inl (km2, 93, .inl ws)), (m3, .inl (km3, 3720, .inl bc)), (m4, .inl (km4, 186, .inl im)), (m5, .inl (km5, 2, .inl isd)), (m6, .inl (km6, 2, .inl kp)), (m7, .inl (km7, 1525, .inl vl)), (m8, .inl (km8, 24, .inl pl))] s.heap.size = A at hD ⊢
  have hA : ∀ q : Nat, s.heap.size ≤ q → A q := fun q h => by rw [← hAe]; exact Or.inr h
  have hS : va_S A s.heap s.heap [] := va_S.rf
  have hl := lv_entry ([.ref m0, .int h, .int a]) (n := 3) (Nat.le_of_ble_eq_true rfl)
  rw [lg_entry_eq]
  generalize (lg_sl ([.ref m0, .int h, .int a]) ++ List.replicate (3 - (lg_sl ([.ref m0, .int h, .int a])).length) Slot.unset).toArray = ls at hl ⊢
  generalize hQe : MQ below _ _ s 0 0 _ = Q
  generalize ([.ref m0, .int h, .int a] : List Value).toArray = args at hts hQe ⊢
  have hl : lv_has ls 3 [(0, .ref m0), (1, .int h), (2, .int a)] := hl
  refine lv_iload_n hx hb dX4_value_0 rfl (lv_at hl 1 rfl) ?_
  refine lv_iconst (v := nI 0) hx hb dX4_value_1 (by decide) ?_
  refine lv_bipush (v := nI 24) hx hb dX4_value_2 (by decide) ?_
  refine va_calli (va_runS (As := [.int h, .int (nI 0), .int (nI 24)]) (rest := []) ⟨hx, hb, hml, hown, hts⟩ (c_X4_in l dC dI   h (nI 0) (nI 24)  ) (va_cwS 3 hts gX4_value_X4_in rfl rfl rfl (by decide +kernel) ⟨Nat.le_of_ble_eq_true rfl, Nat.le_of_ble_eq_true rfl⟩) ⟨fun a U g mk q => q, fun U hU hW => ⟨rfl, trivial⟩⟩ rfl rfl hl.1 rfl (lv_room (Nat.le_of_ble_eq_true rfl)) dX4_value_4 ⟨Nat.le_of_ble_eq_true rfl, Nat.le_of_ble_eq_true rfl⟩) hS (fun q _ h => h.elim) (fun q h => h.elim) (fun r_1 u9 t9 H1 locs ht hvm hw hB hz1 hk1 hS => ?_)
  refine W.widen (k := 0) (n := 0) (Nat.le_of_ble_eq_true rfl) (Nat.le_of_ble_eq_true rfl) ?_
  have hP := hP.kept (H1 := H1) (fun k q hk => hk1 q.1 (hP k q hk).lt (fun h => h))
  clear hz1 hk1 hB ht hvm t9
  generalize H1 = H at hP hS ⊢
  have hP : va_P (dC, dI) vwCl [(m0, .inr (4, [.ref m1, .ref m2, .int (nI bk), .ref m3, .ref m4, .ref m5, .ref m6, .int sd, .ref m7, .ref m8, .int cl, .int pc, .int op])), (m1, .inl (km1, 93, .inl nw)), (m2, .inl (km2, 93, .inl ws)), (m3, .inl (km3, 3720, .inl bc)), (m4, .inl (km4, 186, .inl im)), (m5, .inl (km5, 2, .inl isd)), (m6, .inl (km6, 2, .inl kp)), (m7, .inl (km7, 1525, .inl vl)), (m8, .inl (km8, 24, .inl pl))] H := hP
  have wr_1 := hw
  clear hw
  refine lv_if_ne (tgt := 13) hx hb dX4_value_7 (by decide) (fun c_7 => ?_) (fun c_7 => ?_)
  · obtain ⟨j_2, hj_2, rfl⟩ := rg_0 (by decide) (b_1 wr_1 c_7)
    refine lv_iload_n hx hb dX4_value_13 rfl (lv_at hl 2 rfl) ?_
    refine lv_iconst (v := nI 0) hx hb dX4_value_14 (by decide) ?_
    refine lv_bipush (v := nI 60) hx hb dX4_value_15 (by decide) ?_
    refine va_calli (va_runS (As := [.int a, .int (nI 0), .int (nI 60)]) (rest := []) ⟨hx, hb, hml, hown, hts⟩ (c_X4_in l dC dI   a (nI 0) (nI 60)  ) (va_cwS 3 hts gX4_value_X4_in rfl rfl rfl (by decide +kernel) ⟨Nat.le_of_ble_eq_true rfl, Nat.le_of_ble_eq_true rfl⟩) ⟨fun a U g mk q => q, fun U hU hW => ⟨rfl, trivial⟩⟩ rfl rfl hl.1 rfl (lv_room (Nat.le_of_ble_eq_true rfl)) dX4_value_17 ⟨Nat.le_of_ble_eq_true rfl, Nat.le_of_ble_eq_true rfl⟩) hS (fun q _ h => h.elim) (fun q h => h.elim) (fun r_3 u9 t9 H1 locs ht hvm hw hB hz1 hk1 hS => ?_)
    refine W.widen (k := 0) (n := 0) (Nat.le_of_ble_eq_true rfl) (Nat.le_of_ble_eq_true rfl) ?_
    have hP := hP.kept (H1 := H1) (fun k q hk => hk1 q.1 (hP k q hk).lt (fun h => h))
    clear hz1 hk1 hB ht hvm t9
    generalize H1 = H at hP hS ⊢
    have hP : va_P (dC, dI) vwCl [(m0, .inr (4, [.ref m1, .ref m2, .int (nI bk), .ref m3, .ref m4, .ref m5, .ref m6, .int sd, .ref m7, .ref m8, .int cl, .int pc, .int op])), (m1, .inl (km1, 93, .inl nw)), (m2, .inl (km2, 93, .inl ws)), (m3, .inl (km3, 3720, .inl bc)), (m4, .inl (km4, 186, .inl im)), (m5, .inl (km5, 2, .inl isd)), (m6, .inl (km6, 2, .inl kp)), (m7, .inl (km7, 1525, .inl vl)), (m8, .inl (km8, 24, .inl pl))] H := hP
    have wr_3 := hw
    clear hw
    refine lv_if_ne (tgt := 26) hx hb dX4_value_20 (by decide) (fun c_20 => ?_) (fun c_20 => ?_)
    · obtain ⟨j_4, hj_4, rfl⟩ := rg_0 (by decide) (b_1 wr_3 c_20)
      refine lv_aload_n hx hb dX4_value_26 rfl (lv_at hl 0 rfl) ?_
      have hPc := hP.sub (ws' := [(m0, .inr (4, [.ref m1, .ref m2, .int (nI bk), .ref m3, .ref m4, .ref m5, .ref m6, .int sd, .ref m7, .ref m8, .int cl, .int pc, .int op])), (m1, .inl (km1, 93, .inl nw)), (m7, .inl (km7, 1525, .inl vl))]) [0, 1, 7] rfl
      have hKc := hK.sub (tys' := [(km1, .int), (km7, .int)]) [0, 6] rfl
      have hDc := hD.sub (ws' := [(m0, .inr (4, [.ref m1, .ref m2, .int (nI bk), .ref m3, .ref m4, .ref m5, .ref m6, .int sd, .ref m7, .ref m8, .int cl, .int pc, .int op])), (m1, .inl (km1, 93, .inl nw)), (m7, .inl (km7, 1525, .inl vl))]) [0, 1, 7] (by decide) rfl
      have hFc := va_free (wc := [(m0, .inr (4, [.ref m1, .ref m2, .int (nI bk), .ref m3, .ref m4, .ref m5, .ref m6, .int sd, .ref m7, .ref m8, .int cl, .int pc, .int op])), (m1, .inl (km1, 93, .inl nw)), (m7, .inl (km7, 1525, .inl vl))]) hD hS hA [0, 1, 7] rfl
      refine va_callv (va_runV (As := []) (rest := []) ⟨hx, hb, hml, hown, hts⟩ (c_X4_lay l dC dI m0 m1 m7 m2 m3 m4 m5 m6 m8 km1 km7 H.size bk sd cl pc op nw vl  (by first | assumption | omega) (by first | assumption | omega) ) (cwV 0 hts gX4_value_X4_lay rfl rfl rfl (by decide +kernel) ⟨Nat.le_of_ble_eq_true rfl, Nat.le_of_ble_eq_true rfl⟩) ⟨fun a U g mk q => by obtain ⟨q0, q1, qP, qK, qD⟩ := q; exact ⟨q0, q1, qP, va_K.moved (u := U) (U := U.calling g mk a) (Vm.Alike.refl U.vm) qK, qD⟩, va_recv hKc hPc (ci := 4) (q0 := 0) rfl rfl, fun U hU hW => ⟨rfl, by rw [hU], by rw [hU]; exact hPc, va_K.moved hW.alike hKc, hDc.weaken (fun _ _ _ _ => trivial)⟩⟩ rfl rfl hl.1 rfl (lv_room (Nat.le_of_ble_eq_true rfl)) dX4_value_27 ⟨Nat.le_of_ble_eq_true rfl, Nat.le_of_ble_eq_true rfl⟩) hS (fun q _ h => hFc q h) hFc (fun u9 t9 H1 locs ht hvm hw hB hz1 hk1 hS => ?_)
      refine W.widen (k := 0) (n := 0) (Nat.le_of_ble_eq_true rfl) (Nat.le_of_ble_eq_true rfl) ?_
      obtain ⟨⟩ := u9
      obtain ⟨vl_6, h_7, hP1, hK1, hD1⟩ := hB
      rw [ht] at hP1
      obtain ⟨hP, hD⟩ := va_join (wr := [(m2, .inl (km2, 93, .inl ws)), (m3, .inl (km3, 3720, .inl bc)), (m4, .inl (km4, 186, .inl im)), (m5, .inl (km5, 2, .inl isd)), (m6, .inl (km6, 2, .inl kp)), (m8, .inl (km8, 24, .inl pl))]) (w1 := [(m0, .inr (4, [.ref m1, .ref m2, .int (nI bk), .ref m3, .ref m4, .ref m5, .ref m6, .int sd, .ref m7, .ref m8, .int cl, .int pc, .int op])), (m1, .inl (km1, 93, .inl nw)), (m7, .inl (km7, 1525, .inl vl_6))]) hP hD [0, 1, 7] [2, 3, 4, 5, 6, 8] rfl rfl (by decide) (by decide) hk1 hFc hP1 hD1
      clear hPc hDc hKc hFc hz1 hk1 ht hvm hP1 hK1 hD1 hw t9
      generalize H1 = H at hP hS ⊢
      have hP := hP.sub (ws' := [(m0, .inr (4, [.ref m1, .ref m2, .int (nI bk), .ref m3, .ref m4, .ref m5, .ref m6, .int sd, .ref m7, .ref m8, .int cl, .int pc, .int op])), (m1, .inl (km1, 93, .inl nw)), (m2, .inl (km2, 93, .inl ws)), (m3, .inl (km3, 3720, .inl bc)), (m4, .inl (km4, 186, .inl im)), (m5, .inl (km5, 2, .inl isd)), (m6, .inl (km6, 2, .inl kp)), (m7, .inl (km7, 1525, .inl vl_6)), (m8, .inl (km8, 24, .inl pl))]) [6, 7, 0, 1, 2, 3, 4, 8, 5] rfl
      have hD := hD.sub (ws' := [(m0, .inr (4, [.ref m1, .ref m2, .int (nI bk), .ref m3, .ref m4, .ref m5, .ref m6, .int sd, .ref m7, .ref m8, .int cl, .int pc, .int op])), (m1, .inl (km1, 93, .inl nw)), (m2, .inl (km2, 93, .inl ws)), (m3, .inl (km3, 3720, .inl bc)), (m4, .inl (km4, 186, .inl im)), (m5, .inl (km5, 2, .inl isd)), (m6, .inl (km6, 2, .inl kp)), (m7, .inl (km7, 1525, .inl vl_6)), (m8, .inl (km8, 24, .inl pl))]) [6, 7, 0, 1, 2, 3, 4, 8, 5] (by decide) rfl
      refine lv_aload_n hx hb dX4_value_30 rfl (lv_at hl 0 rfl) ?_
      refine va_get (D := (dC, dI)) (ci := 4) (v := .ref m7) (C := RX4) (T := TX4) (N := 13) hx hb hts inX4 hown hK hP 0 rfl rfl 8 (by decide) (hts (.fieldLink RX4 29 "StoreSlopesModel" "value" "[I") (List.mem_of_getElem? (i := 3) rfl)) (fun _ h9 => h9) rfl dX4_value_31 ?_
      refine lv_bipush (v := nI 61) hx hb dX4_value_34 (by decide) ?_
      refine lv_iload_n hx hb dX4_value_36 rfl (lv_at hl 1 rfl) ?_
      refine lv_imul hx hb dX4_value_37 ?_
      refine tp_as (pk_mul 61 j_2) ?_
      refine lv_iload_n hx hb dX4_value_38 rfl (lv_at hl 2 rfl) ?_
      refine lv_iadd hx hb dX4_value_39 ?_
      refine tp_as (nI_add (61 * j_2) j_4) ?_
      refine va_iald hx hb hK hP 7 6 rfl rfl (vp_in_nI (show 61 * j_2 + j_4 < 1525 by omega) (by omega)) dX4_value_40 ?_
      refine tp_any (fun y_8 => ?_)
      refine va_calli (va_runS (As := [.int y_8]) (rest := []) ⟨hx, hb, hml, hown, hts⟩ (c_X4_shown l dC dI   y_8  ) (va_cwS 1 hts gX4_value_X4_shown rfl rfl rfl (by decide +kernel) ⟨Nat.le_of_ble_eq_true rfl, Nat.le_of_ble_eq_true rfl⟩) ⟨fun a U g mk q => q, fun U hU hW => ⟨rfl, trivial⟩⟩ rfl rfl hl.1 rfl (lv_room (Nat.le_of_ble_eq_true rfl)) dX4_value_41 ⟨Nat.le_of_ble_eq_true rfl, Nat.le_of_ble_eq_true rfl⟩) hS (fun q _ h => h.elim) (fun q h => h.elim) (fun r_9 u9 t9 H1 locs ht hvm hw hB hz1 hk1 hS => ?_)
      refine W.widen (k := 0) (n := 0) (Nat.le_of_ble_eq_true rfl) (Nat.le_of_ble_eq_true rfl) ?_
      have hP := hP.kept (H1 := H1) (fun k q hk => hk1 q.1 (hP k q hk).lt (fun h => h))
      clear hz1 hk1 hB ht hvm t9
      generalize H1 = H at hP hS ⊢
      have hP : va_P (dC, dI) vwCl [(m0, .inr (4, [.ref m1, .ref m2, .int (nI bk), .ref m3, .ref m4, .ref m5, .ref m6, .int sd, .ref m7, .ref m8, .int cl, .int pc, .int op])), (m1, .inl (km1, 93, .inl nw)), (m2, .inl (km2, 93, .inl ws)), (m3, .inl (km3, 3720, .inl bc)), (m4, .inl (km4, 186, .inl im)), (m5, .inl (km5, 2, .inl isd)), (m6, .inl (km6, 2, .inl kp)), (m7, .inl (km7, 1525, .inl vl_6)), (m8, .inl (km8, 24, .inl pl))] H := hP
      clear hw
      subst hQe
      have hP9 := hP.sub (ws' := [(m0, .inr (4, [.ref m1, .ref m2, .int (nI bk), .ref m3, .ref m4, .ref m5, .ref m6, .int sd, .ref m7, .ref m8, .int cl, .int pc, .int op])), (m1, .inl (km1, 93, .inl nw)), (m2, .inl (km2, 93, .inl ws)), (m3, .inl (km3, 3720, .inl bc)), (m4, .inl (km4, 186, .inl im)), (m5, .inl (km5, 2, .inl isd)), (m6, .inl (km6, 2, .inl kp)), (m7, .inl (km7, 1525, .inl vl_6)), (m8, .inl (km8, 24, .inl pl))]) [0, 1, 2, 3, 4, 5, 6, 7, 8] rfl
      have hD9 := hD.sub (ws' := [(m0, .inr (4, [.ref m1, .ref m2, .int (nI bk), .ref m3, .ref m4, .ref m5, .ref m6, .int sd, .ref m7, .ref m8, .int cl, .int pc, .int op])), (m1, .inl (km1, 93, .inl nw)), (m2, .inl (km2, 93, .inl ws)), (m3, .inl (km3, 3720, .inl bc)), (m4, .inl (km4, 186, .inl im)), (m5, .inl (km5, 2, .inl isd)), (m6, .inl (km6, 2, .inl kp)), (m7, .inl (km7, 1525, .inl vl_6)), (m8, .inl (km8, 24, .inl pl))]) [0, 1, 2, 3, 4, 5, 6, 7, 8] (by decide) rfl
      have hK9 := hK.sub (tys' := [(km1, .int), (km2, .int), (km3, .int), (km4, .int), (km5, .int), (km6, .boolean), (km7, .int), (km8, .int)]) [0, 1, 2, 3, 4, 5, 6, 7] rfl
      subst hAe
      exact W.iret (v := r_9) hx hb hr (fun t ht hW => ⟨⟨_, _, rfl, rfl, bk, sd, cl, pc, op, nw, ws, bc, im, isd, vl_6, pl, (by first | assumption | omega), (by first | assumption | omega), (by first | assumption | omega), (by first | assumption | omega), (by first | assumption | omega), by rw [ht]; exact hP9, va_K.moved hW.alike hK9, hD9⟩, hS.F ht⟩) hS.2.2 dX4_value_44
    · have nc_20 := b_0 wr_3 c_20
      refine lv_ldc (own := RX4) (v := (-1000000002)) hx hb hown (hts (.constant RX4 110 (-1000000002)) (List.mem_of_getElem? (i := 2) rfl)) dX4_value_23 ?_
      subst hQe
      have hP9 := hP.sub (ws' := [(m0, .inr (4, [.ref m1, .ref m2, .int (nI bk), .ref m3, .ref m4, .ref m5, .ref m6, .int sd, .ref m7, .ref m8, .int cl, .int pc, .int op])), (m1, .inl (km1, 93, .inl nw)), (m2, .inl (km2, 93, .inl ws)), (m3, .inl (km3, 3720, .inl bc)), (m4, .inl (km4, 186, .inl im)), (m5, .inl (km5, 2, .inl isd)), (m6, .inl (km6, 2, .inl kp)), (m7, .inl (km7, 1525, .inl vl)), (m8, .inl (km8, 24, .inl pl))]) [0, 1, 2, 3, 4, 5, 6, 7, 8] rfl
      have hD9 := hD.sub (ws' := [(m0, .inr (4, [.ref m1, .ref m2, .int (nI bk), .ref m3, .ref m4, .ref m5, .ref m6, .int sd, .ref m7, .ref m8, .int cl, .int pc, .int op])), (m1, .inl (km1, 93, .inl nw)), (m2, .inl (km2, 93, .inl ws)), (m3, .inl (km3, 3720, .inl bc)), (m4, .inl (km4, 186, .inl im)), (m5, .inl (km5, 2, .inl isd)), (m6, .inl (km6, 2, .inl kp)), (m7, .inl (km7, 1525, .inl vl)), (m8, .inl (km8, 24, .inl pl))]) [0, 1, 2, 3, 4, 5, 6, 7, 8] (by decide) rfl
      have hK9 := hK.sub (tys' := [(km1, .int), (km2, .int), (km3, .int), (km4, .int), (km5, .int), (km6, .boolean), (km7, .int), (km8, .int)]) [0, 1, 2, 3, 4, 5, 6, 7] rfl
      subst hAe
      exact W.iret (v := ((-1000000002))) hx hb hr (fun t ht hW => ⟨⟨_, _, rfl, rfl, bk, sd, cl, pc, op, nw, ws, bc, im, isd, vl, pl, (by first | assumption | omega), (by first | assumption | omega), (by first | assumption | omega), (by first | assumption | omega), (by first | assumption | omega), by rw [ht]; exact hP9, va_K.moved hW.alike hK9, hD9⟩, hS.F ht⟩) hS.2.2 dX4_value_25
  · have nc_7 := b_0 wr_1 c_7
    refine lv_ldc (own := RX4) (v := (-1000000001)) hx hb hown (hts (.constant RX4 109 (-1000000001)) (List.mem_of_getElem? (i := 1) rfl)) dX4_value_10 ?_
    subst hQe
    have hP9 := hP.sub (ws' := [(m0, .inr (4, [.ref m1, .ref m2, .int (nI bk), .ref m3, .ref m4, .ref m5, .ref m6, .int sd, .ref m7, .ref m8, .int cl, .int pc, .int op])), (m1, .inl (km1, 93, .inl nw)), (m2, .inl (km2, 93, .inl ws)), (m3, .inl (km3, 3720, .inl bc)), (m4, .inl (km4, 186, .inl im)), (m5, .inl (km5, 2, .inl isd)), (m6, .inl (km6, 2, .inl kp)), (m7, .inl (km7, 1525, .inl vl)), (m8, .inl (km8, 24, .inl pl))]) [0, 1, 2, 3, 4, 5, 6, 7, 8] rfl
    have hD9 := hD.sub (ws' := [(m0, .inr (4, [.ref m1, .ref m2, .int (nI bk), .ref m3, .ref m4, .ref m5, .ref m6, .int sd, .ref m7, .ref m8, .int cl, .int pc, .int op])), (m1, .inl (km1, 93, .inl nw)), (m2, .inl (km2, 93, .inl ws)), (m3, .inl (km3, 3720, .inl bc)), (m4, .inl (km4, 186, .inl im)), (m5, .inl (km5, 2, .inl isd)), (m6, .inl (km6, 2, .inl kp)), (m7, .inl (km7, 1525, .inl vl)), (m8, .inl (km8, 24, .inl pl))]) [0, 1, 2, 3, 4, 5, 6, 7, 8] (by decide) rfl
    have hK9 := hK.sub (tys' := [(km1, .int), (km2, .int), (km3, .int), (km4, .int), (km5, .int), (km6, .boolean), (km7, .int), (km8, .int)]) [0, 1, 2, 3, 4, 5, 6, 7] rfl
    subst hAe
    exact W.iret (v := ((-1000000001))) hx hb hr (fun t ht hW => ⟨⟨_, _, rfl, rfl, bk, sd, cl, pc, op, nw, ws, bc, im, isd, vl, pl, (by first | assumption | omega), (by first | assumption | omega), (by first | assumption | omega), (by first | assumption | omega), (by first | assumption | omega), by rw [ht]; exact hP9, va_K.moved hW.alike hK9, hD9⟩, hS.F ht⟩) hS.2.2 dX4_value_12
set_option maxHeartbeats 4000000 in
set_option maxRecDepth 100000 in
theorem c_X4_margin (l : Launch) (dC : Nat → ClassId) (dI : Nat → Nat → Nat) (m0 m1 m2 m3 m4 m5 m6 m7 m8 : Nat) (km1 km2 km3 km4 km5 km6 km7 km8 : ClassId) (sz : Nat) (bk : Nat) (sd : Int32) (cl : Int32) (pc : Int32) (op : Int32) (nw : Nat → Int32) (ws : Nat → Int32) (bc : Nat → Int32) (im : Nat → Int32) (isd : Nat → Int32) (kp : Nat → Int32) (vl : Nat → Int32) (pl : Nat → Int32) (h : Int32) (a : Int32) (i0 : bk ≤ 40) (i1 : okN nw) (i2 : okB 40 bc) (i3 : okB 2 im) (i4 : bdA 60 24 pl) : Met l yX4_margin wsX4_margin ({ frames := 6, cells := 0, slots := 0, locals := 142 }) (va_Pc [.ref m0, .int h, .int a] (fun U => U.heap.size = sz ∧ va_P (dC, dI) vwCl [(m0, .inr (4, [.ref m1, .ref m2, .int (nI bk), .ref m3, .ref m4, .ref m5, .ref m6, .int sd, .ref m7, .ref m8, .int cl, .int pc, .int op])), (m1, .inl (km1, 93, .inl nw)), (m2, .inl (km2, 93, .inl ws)), (m3, .inl (km3, 3720, .inl bc)), (m4, .inl (km4, 186, .inl im)), (m5, .inl (km5, 2, .inl isd)), (m6, .inl (km6, 2, .inl kp)), (m7, .inl (km7, 1525, .inl vl)), (m8, .inl (km8, 24, .inl pl))] U.heap ∧ va_K (dC, dI) vwCl [(km1, .int), (km2, .int), (km3, .int), (km4, .int), (km5, .int), (km6, .boolean), (km7, .int), (km8, .int)] U ∧ va_D (fun _ => True) [(m0, .inr (4, [.ref m1, .ref m2, .int (nI bk), .ref m3, .ref m4, .ref m5, .ref m6, .int sd, .ref m7, .ref m8, .int cl, .int pc, .int op])), (m1, .inl (km1, 93, .inl nw)), (m2, .inl (km2, 93, .inl ws)), (m3, .inl (km3, 3720, .inl bc)), (m4, .inl (km4, 186, .inl im)), (m5, .inl (km5, 2, .inl isd)), (m6, .inl (km6, 2, .inl kp)), (m7, .inl (km7, 1525, .inl vl)), (m8, .inl (km8, 24, .inl pl))])) (va_Qi (fun (r u : Int32) => u = r) (fun r t => ∃ (bk' : Nat) (sd' : Int32) (cl' : Int32) (pc' : Int32) (op' : Int32) (nw' : Nat → Int32) (ws' : Nat → Int32) (bc' : Nat → Int32) (im' : Nat → Int32) (isd' : Nat → Int32) (vl' : Nat → Int32) (pl' : Nat → Int32), bk' ≤ 40 ∧ okN nw' ∧ okB 40 bc' ∧ okB 2 im' ∧ bdA 60 24 pl' ∧ va_P (dC, dI) vwCl [(m0, .inr (4, [.ref m1, .ref m2, .int (nI bk'), .ref m3, .ref m4, .ref m5, .ref m6, .int sd', .ref m7, .ref m8, .int cl', .int pc', .int op'])), (m1, .inl (km1, 93, .inl nw')), (m2, .inl (km2, 93, .inl ws')), (m3, .inl (km3, 3720, .inl bc')), (m4, .inl (km4, 186, .inl im')), (m5, .inl (km5, 2, .inl isd')), (m6, .inl (km6, 2, .inl kp)), (m7, .inl (km7, 1525, .inl vl')), (m8, .inl (km8, 24, .inl pl'))] t.heap ∧ va_K (dC, dI) vwCl [(km1, .int), (km2, .int), (km3, .int), (km4, .int), (km5, .int), (km6, .boolean), (km7, .int), (km8, .int)] t ∧ va_D (va_A [(m0, .inr (4, [.ref m1, .ref m2, .int (nI bk), .ref m3, .ref m4, .ref m5, .ref m6, .int sd, .ref m7, .ref m8, .int cl, .int pc, .int op])), (m1, .inl (km1, 93, .inl nw)), (m2, .inl (km2, 93, .inl ws)), (m3, .inl (km3, 3720, .inl bc)), (m4, .inl (km4, 186, .inl im)), (m5, .inl (km5, 2, .inl isd)), (m6, .inl (km6, 2, .inl kp)), (m7, .inl (km7, 1525, .inl vl)), (m8, .inl (km8, 24, .inl pl))] sz) [(m0, .inr (4, [.ref m1, .ref m2, .int (nI bk'), .ref m3, .ref m4, .ref m5, .ref m6, .int sd', .ref m7, .ref m8, .int cl', .int pc', .int op'])), (m1, .inl (km1, 93, .inl nw')), (m2, .inl (km2, 93, .inl ws')), (m3, .inl (km3, 3720, .inl bc')), (m4, .inl (km4, 186, .inl im')), (m5, .inl (km5, 2, .inl isd')), (m6, .inl (km6, 2, .inl kp)), (m7, .inl (km7, 1525, .inl vl')), (m8, .inl (km8, 24, .inl pl'))]) (va_A [(m0, .inr (4, [.ref m1, .ref m2, .int (nI bk), .ref m3, .ref m4, .ref m5, .ref m6, .int sd, .ref m7, .ref m8, .int cl, .int pc, .int op])), (m1, .inl (km1, 93, .inl nw)), (m2, .inl (km2, 93, .inl ws)), (m3, .inl (km3, 3720, .inl bc)), (m4, .inl (km4, 186, .inl im)), (m5, .inl (km5, 2, .inl isd)), (m6, .inl (km6, 2, .inl kp)), (m7, .inl (km7, 1525, .inl vl)), (m8, .inl (km8, 24, .inl pl))] sz)) 0 0 (va_A [(m0, .inr (4, [.ref m1, .ref m2, .int (nI bk), .ref m3, .ref m4, .ref m5, .ref m6, .int sd, .ref m7, .ref m8, .int cl, .int pc, .int op])), (m1, .inl (km1, 93, .inl nw)), (m2, .inl (km2, 93, .inl ws)), (m3, .inl (km3, 3720, .inl bc)), (m4, .inl (km4, 186, .inl im)), (m5, .inl (km5, 2, .inl isd)), (m6, .inl (km6, 2, .inl kp)), (m7, .inl (km7, 1525, .inl vl)), (m8, .inl (km8, 24, .inl pl))] sz) := by
  refine Met.ofW (cc := cX4_margin) (maxL := 5) (ret := (some .int)) (by decide) rfl ?_
  intro p e s m args below meth c s₁ B hml hv
  obtain ⟨rfl, hsz, hP, hK, hD0⟩ := hv
  have hx := B.exec
  have hb := B.bytes
  have hr := B.returns
  have hts := atoms_spec (ws := wsX4_margin) B.pre
  have hown : s.vm.findClass RX4 = some m.cls := findClass_of_methodNamed B.named
  have hlocks := B.notSynchronized
  have inX4 : ∀ w ∈ wsX40, w ∈ wsX4_margin := fun _ h => List.mem_cons_of_mem _ (List.mem_append_right _ h)
  subst hsz
  have hD := hD0.self (sz := s.heap.size)
  generalize hAe : va_A [(m0, .inr (4, [.ref m1, .ref m2, .int (nI bk), .ref m3, .ref m4, .ref m5, .ref m6, .int sd, .ref m7, .ref m8, .int cl, .int pc, .int op])), (m1, .inl (km1, 93, .inl nw)), (m2, .inl (km2, 93, .inl ws)), (m3, .inl (km3, 3720, .inl bc)), (m4, .inl (km4, 186, .inl im)), (m5, .inl (km5, 2, .inl isd)), (m6, .inl (km6, 2, .inl kp)), (m7, .inl (km7, 1525, .inl vl)), (m8, .inl (km8, 24, .inl pl))] s.heap.size = A at hD ⊢
  have hA : ∀ q : Nat, s.heap.size ≤ q → A q := fun q h => by rw [← hAe]; exact Or.inr h
  have hS : va_S A s.heap s.heap [] := va_S.rf
  have hl := lv_entry ([.ref m0, .int h, .int a]) (n := 5) (Nat.le_of_ble_eq_true rfl)
  rw [lg_entry_eq]
  generalize (lg_sl ([.ref m0, .int h, .int a]) ++ List.replicate (5 - (lg_sl ([.ref m0, .int h, .int a])).length) Slot.unset).toArray = ls at hl ⊢
  generalize hQe : MQ below _ _ s 0 0 _ = Q
  generalize ([.ref m0, .int h, .int a] : List Value).toArray = args at hts hQe ⊢
  have hl : lv_has ls 5 [(0, .ref m0), (1, .int h), (2, .int a)] := hl
  refine lv_iload_n hx hb dX4_margin_0 rfl (lv_at hl 1 rfl) ?_
  refine lv_iconst (v := nI 0) hx hb dX4_margin_1 (by decide) ?_
  refine lv_bipush (v := nI 24) hx hb dX4_margin_2 (by decide) ?_
  refine va_calli (va_runS (As := [.int h, .int (nI 0), .int (nI 24)]) (rest := []) ⟨hx, hb, hml, hown, hts⟩ (c_X4_in l dC dI   h (nI 0) (nI 24)  ) (va_cwS 3 hts gX4_margin_X4_in rfl rfl rfl (by decide +kernel) ⟨Nat.le_of_ble_eq_true rfl, Nat.le_of_ble_eq_true rfl⟩) ⟨fun a U g mk q => q, fun U hU hW => ⟨rfl, trivial⟩⟩ rfl rfl hl.1 rfl (lv_room (Nat.le_of_ble_eq_true rfl)) dX4_margin_4 ⟨Nat.le_of_ble_eq_true rfl, Nat.le_of_ble_eq_true rfl⟩) hS (fun q _ h => h.elim) (fun q h => h.elim) (fun r_1 u9 t9 H1 locs ht hvm hw hB hz1 hk1 hS => ?_)
  refine W.widen (k := 0) (n := 0) (Nat.le_of_ble_eq_true rfl) (Nat.le_of_ble_eq_true rfl) ?_
  have hP := hP.kept (H1 := H1) (fun k q hk => hk1 q.1 (hP k q hk).lt (fun h => h))
  clear hz1 hk1 hB ht hvm t9
  generalize H1 = H at hP hS ⊢
  have hP : va_P (dC, dI) vwCl [(m0, .inr (4, [.ref m1, .ref m2, .int (nI bk), .ref m3, .ref m4, .ref m5, .ref m6, .int sd, .ref m7, .ref m8, .int cl, .int pc, .int op])), (m1, .inl (km1, 93, .inl nw)), (m2, .inl (km2, 93, .inl ws)), (m3, .inl (km3, 3720, .inl bc)), (m4, .inl (km4, 186, .inl im)), (m5, .inl (km5, 2, .inl isd)), (m6, .inl (km6, 2, .inl kp)), (m7, .inl (km7, 1525, .inl vl)), (m8, .inl (km8, 24, .inl pl))] H := hP
  have wr_1 := hw
  clear hw
  refine lv_if_ne (tgt := 13) hx hb dX4_margin_7 (by decide) (fun c_7 => ?_) (fun c_7 => ?_)
  · obtain ⟨j_2, hj_2, rfl⟩ := rg_0 (by decide) (b_1 wr_1 c_7)
    refine lv_iload_n hx hb dX4_margin_13 rfl (lv_at hl 2 rfl) ?_
    refine lv_iconst (v := nI 0) hx hb dX4_margin_14 (by decide) ?_
    refine lv_bipush (v := nI 59) hx hb dX4_margin_15 (by decide) ?_
    refine va_calli (va_runS (As := [.int a, .int (nI 0), .int (nI 59)]) (rest := []) ⟨hx, hb, hml, hown, hts⟩ (c_X4_in l dC dI   a (nI 0) (nI 59)  ) (va_cwS 3 hts gX4_margin_X4_in rfl rfl rfl (by decide +kernel) ⟨Nat.le_of_ble_eq_true rfl, Nat.le_of_ble_eq_true rfl⟩) ⟨fun a U g mk q => q, fun U hU hW => ⟨rfl, trivial⟩⟩ rfl rfl hl.1 rfl (lv_room (Nat.le_of_ble_eq_true rfl)) dX4_margin_17 ⟨Nat.le_of_ble_eq_true rfl, Nat.le_of_ble_eq_true rfl⟩) hS (fun q _ h => h.elim) (fun q h => h.elim) (fun r_3 u9 t9 H1 locs ht hvm hw hB hz1 hk1 hS => ?_)
    refine W.widen (k := 0) (n := 0) (Nat.le_of_ble_eq_true rfl) (Nat.le_of_ble_eq_true rfl) ?_
    have hP := hP.kept (H1 := H1) (fun k q hk => hk1 q.1 (hP k q hk).lt (fun h => h))
    clear hz1 hk1 hB ht hvm t9
    generalize H1 = H at hP hS ⊢
    have hP : va_P (dC, dI) vwCl [(m0, .inr (4, [.ref m1, .ref m2, .int (nI bk), .ref m3, .ref m4, .ref m5, .ref m6, .int sd, .ref m7, .ref m8, .int cl, .int pc, .int op])), (m1, .inl (km1, 93, .inl nw)), (m2, .inl (km2, 93, .inl ws)), (m3, .inl (km3, 3720, .inl bc)), (m4, .inl (km4, 186, .inl im)), (m5, .inl (km5, 2, .inl isd)), (m6, .inl (km6, 2, .inl kp)), (m7, .inl (km7, 1525, .inl vl)), (m8, .inl (km8, 24, .inl pl))] H := hP
    have wr_3 := hw
    clear hw
    refine lv_if_ne (tgt := 26) hx hb dX4_margin_20 (by decide) (fun c_20 => ?_) (fun c_20 => ?_)
    · obtain ⟨j_4, hj_4, rfl⟩ := rg_0 (by decide) (b_1 wr_3 c_20)
      refine lv_aload_n hx hb dX4_margin_26 rfl (lv_at hl 0 rfl) ?_
      have hPc := hP.sub (ws' := [(m0, .inr (4, [.ref m1, .ref m2, .int (nI bk), .ref m3, .ref m4, .ref m5, .ref m6, .int sd, .ref m7, .ref m8, .int cl, .int pc, .int op])), (m1, .inl (km1, 93, .inl nw)), (m7, .inl (km7, 1525, .inl vl))]) [0, 1, 7] rfl
      have hKc := hK.sub (tys' := [(km1, .int), (km7, .int)]) [0, 6] rfl
      have hDc := hD.sub (ws' := [(m0, .inr (4, [.ref m1, .ref m2, .int (nI bk), .ref m3, .ref m4, .ref m5, .ref m6, .int sd, .ref m7, .ref m8, .int cl, .int pc, .int op])), (m1, .inl (km1, 93, .inl nw)), (m7, .inl (km7, 1525, .inl vl))]) [0, 1, 7] (by decide) rfl
      have hFc := va_free (wc := [(m0, .inr (4, [.ref m1, .ref m2, .int (nI bk), .ref m3, .ref m4, .ref m5, .ref m6, .int sd, .ref m7, .ref m8, .int cl, .int pc, .int op])), (m1, .inl (km1, 93, .inl nw)), (m7, .inl (km7, 1525, .inl vl))]) hD hS hA [0, 1, 7] rfl
      refine va_callv (va_runV (As := []) (rest := []) ⟨hx, hb, hml, hown, hts⟩ (c_X4_lay l dC dI m0 m1 m7 m2 m3 m4 m5 m6 m8 km1 km7 H.size bk sd cl pc op nw vl  (by first | assumption | omega) (by first | assumption | omega) ) (cwV 0 hts gX4_margin_X4_lay rfl rfl rfl (by decide +kernel) ⟨Nat.le_of_ble_eq_true rfl, Nat.le_of_ble_eq_true rfl⟩) ⟨fun a U g mk q => by obtain ⟨q0, q1, qP, qK, qD⟩ := q; exact ⟨q0, q1, qP, va_K.moved (u := U) (U := U.calling g mk a) (Vm.Alike.refl U.vm) qK, qD⟩, va_recv hKc hPc (ci := 4) (q0 := 0) rfl rfl, fun U hU hW => ⟨rfl, by rw [hU], by rw [hU]; exact hPc, va_K.moved hW.alike hKc, hDc.weaken (fun _ _ _ _ => trivial)⟩⟩ rfl rfl hl.1 rfl (lv_room (Nat.le_of_ble_eq_true rfl)) dX4_margin_27 ⟨Nat.le_of_ble_eq_true rfl, Nat.le_of_ble_eq_true rfl⟩) hS (fun q _ h => hFc q h) hFc (fun u9 t9 H1 locs ht hvm hw hB hz1 hk1 hS => ?_)
      refine W.widen (k := 0) (n := 0) (Nat.le_of_ble_eq_true rfl) (Nat.le_of_ble_eq_true rfl) ?_
      obtain ⟨⟩ := u9
      obtain ⟨vl_6, h_7, hP1, hK1, hD1⟩ := hB
      rw [ht] at hP1
      obtain ⟨hP, hD⟩ := va_join (wr := [(m2, .inl (km2, 93, .inl ws)), (m3, .inl (km3, 3720, .inl bc)), (m4, .inl (km4, 186, .inl im)), (m5, .inl (km5, 2, .inl isd)), (m6, .inl (km6, 2, .inl kp)), (m8, .inl (km8, 24, .inl pl))]) (w1 := [(m0, .inr (4, [.ref m1, .ref m2, .int (nI bk), .ref m3, .ref m4, .ref m5, .ref m6, .int sd, .ref m7, .ref m8, .int cl, .int pc, .int op])), (m1, .inl (km1, 93, .inl nw)), (m7, .inl (km7, 1525, .inl vl_6))]) hP hD [0, 1, 7] [2, 3, 4, 5, 6, 8] rfl rfl (by decide) (by decide) hk1 hFc hP1 hD1
      clear hPc hDc hKc hFc hz1 hk1 ht hvm hP1 hK1 hD1 hw t9
      generalize H1 = H at hP hS ⊢
      have hP := hP.sub (ws' := [(m0, .inr (4, [.ref m1, .ref m2, .int (nI bk), .ref m3, .ref m4, .ref m5, .ref m6, .int sd, .ref m7, .ref m8, .int cl, .int pc, .int op])), (m1, .inl (km1, 93, .inl nw)), (m2, .inl (km2, 93, .inl ws)), (m3, .inl (km3, 3720, .inl bc)), (m4, .inl (km4, 186, .inl im)), (m5, .inl (km5, 2, .inl isd)), (m6, .inl (km6, 2, .inl kp)), (m7, .inl (km7, 1525, .inl vl_6)), (m8, .inl (km8, 24, .inl pl))]) [6, 7, 0, 1, 2, 3, 4, 8, 5] rfl
      have hD := hD.sub (ws' := [(m0, .inr (4, [.ref m1, .ref m2, .int (nI bk), .ref m3, .ref m4, .ref m5, .ref m6, .int sd, .ref m7, .ref m8, .int cl, .int pc, .int op])), (m1, .inl (km1, 93, .inl nw)), (m2, .inl (km2, 93, .inl ws)), (m3, .inl (km3, 3720, .inl bc)), (m4, .inl (km4, 186, .inl im)), (m5, .inl (km5, 2, .inl isd)), (m6, .inl (km6, 2, .inl kp)), (m7, .inl (km7, 1525, .inl vl_6)), (m8, .inl (km8, 24, .inl pl))]) [6, 7, 0, 1, 2, 3, 4, 8, 5] (by decide) rfl
      refine lv_aload_n hx hb dX4_margin_30 rfl (lv_at hl 0 rfl) ?_
      refine va_get (D := (dC, dI)) (ci := 4) (v := .ref m7) (C := RX4) (T := TX4) (N := 13) hx hb hts inX4 hown hK hP 0 rfl rfl 8 (by decide) (hts (.fieldLink RX4 29 "StoreSlopesModel" "value" "[I") (List.mem_of_getElem? (i := 3) rfl)) (fun _ h9 => h9) rfl dX4_margin_31 ?_
      refine lv_bipush (v := nI 61) hx hb dX4_margin_34 (by decide) ?_
      refine lv_iload_n hx hb dX4_margin_36 rfl (lv_at hl 1 rfl) ?_
      refine lv_imul hx hb dX4_margin_37 ?_
      refine tp_as (pk_mul 61 j_2) ?_
      refine lv_iload_n hx hb dX4_margin_38 rfl (lv_at hl 2 rfl) ?_
      refine lv_iadd hx hb dX4_margin_39 ?_
      refine tp_as (nI_add (61 * j_2) j_4) ?_
      refine va_iald hx hb hK hP 7 6 rfl rfl (vp_in_nI (show 61 * j_2 + j_4 < 1525 by omega) (by omega)) dX4_margin_40 ?_
      refine tp_any (fun y_8 => ?_)
      refine lv_istore_n (lv' := [(3, .int y_8), (0, .ref m0), (1, .int (nI j_2)), (2, .int (nI j_4))]) hx hb dX4_margin_41 rfl hl (by decide) rfl (fun ls hl => ?_)
      refine lv_aload_n hx hb dX4_margin_42 rfl (lv_at hl 1 rfl) ?_
      refine va_get (D := (dC, dI)) (ci := 4) (v := .ref m7) (C := RX4) (T := TX4) (N := 13) hx hb hts inX4 hown hK hP 0 rfl rfl 8 (by decide) (hts (.fieldLink RX4 29 "StoreSlopesModel" "value" "[I") (List.mem_of_getElem? (i := 3) rfl)) (fun _ h9 => h9) rfl dX4_margin_43 ?_
      refine lv_bipush (v := nI 61) hx hb dX4_margin_46 (by decide) ?_
      refine lv_iload_n hx hb dX4_margin_48 rfl (lv_at hl 2 rfl) ?_
      refine lv_imul hx hb dX4_margin_49 ?_
      refine tp_as (pk_mul 61 j_2) ?_
      refine lv_iload_n hx hb dX4_margin_50 rfl (lv_at hl 3 rfl) ?_
      refine lv_iadd hx hb dX4_margin_51 ?_
      refine tp_as (nI_add (61 * j_2) j_4) ?_
      refine lv_iconst (v := nI 1) hx hb dX4_margin_52 (by decide) ?_
      refine lv_iadd hx hb dX4_margin_53 ?_
      refine tp_as (nI_add (61 * j_2 + j_4) 1) ?_
      refine va_iald hx hb hK hP 7 6 rfl rfl (vp_in_nI (show 61 * j_2 + j_4 + 1 < 1525 by omega) (by omega)) dX4_margin_54 ?_
      refine tp_any (fun y_9 => ?_)
      refine lv_istore (lv' := [(4, .int y_9), (3, .int y_8), (0, .ref m0), (1, .int (nI j_2)), (2, .int (nI j_4))]) hx hb dX4_margin_55 hl (by decide) rfl (fun ls hl => ?_)
      refine lv_iload_n hx hb dX4_margin_57 rfl (lv_at hl 1 rfl) ?_
      refine lv_ldc (own := RX4) (v := (-500000000)) hx hb hown (hts (.constant RX4 67 (-500000000)) (List.mem_of_getElem? (i := 4) rfl)) dX4_margin_58 ?_
      refine lv_icmp_eq (tgt := 70) hx hb dX4_margin_60 (by decide) (fun c_60 => ?_) (fun c_60 => ?_)
      · refine lv_iconst (v := (-1)) hx hb dX4_margin_70 (by decide) ?_
        refine lv_goto (tgt := 81) hx hb dX4_margin_71 (by decide) ?_
        subst hQe
        have hP9 := hP.sub (ws' := [(m0, .inr (4, [.ref m1, .ref m2, .int (nI bk), .ref m3, .ref m4, .ref m5, .ref m6, .int sd, .ref m7, .ref m8, .int cl, .int pc, .int op])), (m1, .inl (km1, 93, .inl nw)), (m2, .inl (km2, 93, .inl ws)), (m3, .inl (km3, 3720, .inl bc)), (m4, .inl (km4, 186, .inl im)), (m5, .inl (km5, 2, .inl isd)), (m6, .inl (km6, 2, .inl kp)), (m7, .inl (km7, 1525, .inl vl_6)), (m8, .inl (km8, 24, .inl pl))]) [0, 1, 2, 3, 4, 5, 6, 7, 8] rfl
        have hD9 := hD.sub (ws' := [(m0, .inr (4, [.ref m1, .ref m2, .int (nI bk), .ref m3, .ref m4, .ref m5, .ref m6, .int sd, .ref m7, .ref m8, .int cl, .int pc, .int op])), (m1, .inl (km1, 93, .inl nw)), (m2, .inl (km2, 93, .inl ws)), (m3, .inl (km3, 3720, .inl bc)), (m4, .inl (km4, 186, .inl im)), (m5, .inl (km5, 2, .inl isd)), (m6, .inl (km6, 2, .inl kp)), (m7, .inl (km7, 1525, .inl vl_6)), (m8, .inl (km8, 24, .inl pl))]) [0, 1, 2, 3, 4, 5, 6, 7, 8] (by decide) rfl
        have hK9 := hK.sub (tys' := [(km1, .int), (km2, .int), (km3, .int), (km4, .int), (km5, .int), (km6, .boolean), (km7, .int), (km8, .int)]) [0, 1, 2, 3, 4, 5, 6, 7] rfl
        subst hAe
        exact W.iret (v := ((-1))) hx hb hr (fun t ht hW => ⟨⟨_, _, rfl, rfl, bk, sd, cl, pc, op, nw, ws, bc, im, isd, vl_6, pl, (by first | assumption | omega), (by first | assumption | omega), (by first | assumption | omega), (by first | assumption | omega), (by first | assumption | omega), by rw [ht]; exact hP9, va_K.moved hW.alike hK9, hD9⟩, hS.F ht⟩) hS.2.2 dX4_margin_81
      · refine lv_iload hx hb dX4_margin_63 (lv_at hl 0 rfl) ?_
        refine lv_ldc (own := RX4) (v := (-500000000)) hx hb hown (hts (.constant RX4 67 (-500000000)) (List.mem_of_getElem? (i := 4) rfl)) dX4_margin_65 ?_
        refine lv_icmp_ne (tgt := 74) hx hb dX4_margin_67 (by decide) (fun c_67 => ?_) (fun c_67 => ?_)
        · refine lv_iload hx hb dX4_margin_74 (lv_at hl 0 rfl) ?_
          refine lv_iload_n hx hb dX4_margin_76 rfl (lv_at hl 1 rfl) ?_
          refine lv_isub hx hb dX4_margin_77 ?_
          refine tp_any (fun y_10 => ?_)
          refine lv_ldc (own := RX4) (v := (1000000)) hx hb hown (hts (.constant RX4 82 (1000000)) (List.mem_of_getElem? (i := 5) rfl)) dX4_margin_78 ?_
          refine lv_iadd hx hb dX4_margin_80 ?_
          refine tp_any (fun y_11 => ?_)
          subst hQe
          have hP9 := hP.sub (ws' := [(m0, .inr (4, [.ref m1, .ref m2, .int (nI bk), .ref m3, .ref m4, .ref m5, .ref m6, .int sd, .ref m7, .ref m8, .int cl, .int pc, .int op])), (m1, .inl (km1, 93, .inl nw)), (m2, .inl (km2, 93, .inl ws)), (m3, .inl (km3, 3720, .inl bc)), (m4, .inl (km4, 186, .inl im)), (m5, .inl (km5, 2, .inl isd)), (m6, .inl (km6, 2, .inl kp)), (m7, .inl (km7, 1525, .inl vl_6)), (m8, .inl (km8, 24, .inl pl))]) [0, 1, 2, 3, 4, 5, 6, 7, 8] rfl
          have hD9 := hD.sub (ws' := [(m0, .inr (4, [.ref m1, .ref m2, .int (nI bk), .ref m3, .ref m4, .ref m5, .ref m6, .int sd, .ref m7, .ref m8, .int cl, .int pc, .int op])), (m1, .inl (km1, 93, .inl nw)), (m2, .inl (km2, 93, .inl ws)), (m3, .inl (km3, 3720, .inl bc)), (m4, .inl (km4, 186, .inl im)), (m5, .inl (km5, 2, .inl isd)), (m6, .inl (km6, 2, .inl kp)), (m7, .inl (km7, 1525, .inl vl_6)), (m8, .inl (km8, 24, .inl pl))]) [0, 1, 2, 3, 4, 5, 6, 7, 8] (by decide) rfl
          have hK9 := hK.sub (tys' := [(km1, .int), (km2, .int), (km3, .int), (km4, .int), (km5, .int), (km6, .boolean), (km7, .int), (km8, .int)]) [0, 1, 2, 3, 4, 5, 6, 7] rfl
          subst hAe
          exact W.iret (v := y_11) hx hb hr (fun t ht hW => ⟨⟨_, _, rfl, rfl, bk, sd, cl, pc, op, nw, ws, bc, im, isd, vl_6, pl, (by first | assumption | omega), (by first | assumption | omega), (by first | assumption | omega), (by first | assumption | omega), (by first | assumption | omega), by rw [ht]; exact hP9, va_K.moved hW.alike hK9, hD9⟩, hS.F ht⟩) hS.2.2 dX4_margin_81
        · refine lv_iconst (v := (-1)) hx hb dX4_margin_70 (by decide) ?_
          refine lv_goto (tgt := 81) hx hb dX4_margin_71 (by decide) ?_
          subst hQe
          have hP9 := hP.sub (ws' := [(m0, .inr (4, [.ref m1, .ref m2, .int (nI bk), .ref m3, .ref m4, .ref m5, .ref m6, .int sd, .ref m7, .ref m8, .int cl, .int pc, .int op])), (m1, .inl (km1, 93, .inl nw)), (m2, .inl (km2, 93, .inl ws)), (m3, .inl (km3, 3720, .inl bc)), (m4, .inl (km4, 186, .inl im)), (m5, .inl (km5, 2, .inl isd)), (m6, .inl (km6, 2, .inl kp)), (m7, .inl (km7, 1525, .inl vl_6)), (m8, .inl (km8, 24, .inl pl))]) [0, 1, 2, 3, 4, 5, 6, 7, 8] rfl
          have hD9 := hD.sub (ws' := [(m0, .inr (4, [.ref m1, .ref m2, .int (nI bk), .ref m3, .ref m4, .ref m5, .ref m6, .int sd, .ref m7, .ref m8, .int cl, .int pc, .int op])), (m1, .inl (km1, 93, .inl nw)), (m2, .inl (km2, 93, .inl ws)), (m3, .inl (km3, 3720, .inl bc)), (m4, .inl (km4, 186, .inl im)), (m5, .inl (km5, 2, .inl isd)), (m6, .inl (km6, 2, .inl kp)), (m7, .inl (km7, 1525, .inl vl_6)), (m8, .inl (km8, 24, .inl pl))]) [0, 1, 2, 3, 4, 5, 6, 7, 8] (by decide) rfl
          have hK9 := hK.sub (tys' := [(km1, .int), (km2, .int), (km3, .int), (km4, .int), (km5, .int), (km6, .boolean), (km7, .int), (km8, .int)]) [0, 1, 2, 3, 4, 5, 6, 7] rfl
          subst hAe
          exact W.iret (v := ((-1))) hx hb hr (fun t ht hW => ⟨⟨_, _, rfl, rfl, bk, sd, cl, pc, op, nw, ws, bc, im, isd, vl_6, pl, (by first | assumption | omega), (by first | assumption | omega), (by first | assumption | omega), (by first | assumption | omega), (by first | assumption | omega), by rw [ht]; exact hP9, va_K.moved hW.alike hK9, hD9⟩, hS.F ht⟩) hS.2.2 dX4_margin_81
    · have nc_20 := b_0 wr_3 c_20
      refine lv_ldc (own := RX4) (v := (-1000000002)) hx hb hown (hts (.constant RX4 110 (-1000000002)) (List.mem_of_getElem? (i := 2) rfl)) dX4_margin_23 ?_
      subst hQe
      have hP9 := hP.sub (ws' := [(m0, .inr (4, [.ref m1, .ref m2, .int (nI bk), .ref m3, .ref m4, .ref m5, .ref m6, .int sd, .ref m7, .ref m8, .int cl, .int pc, .int op])), (m1, .inl (km1, 93, .inl nw)), (m2, .inl (km2, 93, .inl ws)), (m3, .inl (km3, 3720, .inl bc)), (m4, .inl (km4, 186, .inl im)), (m5, .inl (km5, 2, .inl isd)), (m6, .inl (km6, 2, .inl kp)), (m7, .inl (km7, 1525, .inl vl)), (m8, .inl (km8, 24, .inl pl))]) [0, 1, 2, 3, 4, 5, 6, 7, 8] rfl
      have hD9 := hD.sub (ws' := [(m0, .inr (4, [.ref m1, .ref m2, .int (nI bk), .ref m3, .ref m4, .ref m5, .ref m6, .int sd, .ref m7, .ref m8, .int cl, .int pc, .int op])), (m1, .inl (km1, 93, .inl nw)), (m2, .inl (km2, 93, .inl ws)), (m3, .inl (km3, 3720, .inl bc)), (m4, .inl (km4, 186, .inl im)), (m5, .inl (km5, 2, .inl isd)), (m6, .inl (km6, 2, .inl kp)), (m7, .inl (km7, 1525, .inl vl)), (m8, .inl (km8, 24, .inl pl))]) [0, 1, 2, 3, 4, 5, 6, 7, 8] (by decide) rfl
      have hK9 := hK.sub (tys' := [(km1, .int), (km2, .int), (km3, .int), (km4, .int), (km5, .int), (km6, .boolean), (km7, .int), (km8, .int)]) [0, 1, 2, 3, 4, 5, 6, 7] rfl
      subst hAe
      exact W.iret (v := ((-1000000002))) hx hb hr (fun t ht hW => ⟨⟨_, _, rfl, rfl, bk, sd, cl, pc, op, nw, ws, bc, im, isd, vl, pl, (by first | assumption | omega), (by first | assumption | omega), (by first | assumption | omega), (by first | assumption | omega), (by first | assumption | omega), by rw [ht]; exact hP9, va_K.moved hW.alike hK9, hD9⟩, hS.F ht⟩) hS.2.2 dX4_margin_25
  · have nc_7 := b_0 wr_1 c_7
    refine lv_ldc (own := RX4) (v := (-1000000001)) hx hb hown (hts (.constant RX4 109 (-1000000001)) (List.mem_of_getElem? (i := 1) rfl)) dX4_margin_10 ?_
    subst hQe
    have hP9 := hP.sub (ws' := [(m0, .inr (4, [.ref m1, .ref m2, .int (nI bk), .ref m3, .ref m4, .ref m5, .ref m6, .int sd, .ref m7, .ref m8, .int cl, .int pc, .int op])), (m1, .inl (km1, 93, .inl nw)), (m2, .inl (km2, 93, .inl ws)), (m3, .inl (km3, 3720, .inl bc)), (m4, .inl (km4, 186, .inl im)), (m5, .inl (km5, 2, .inl isd)), (m6, .inl (km6, 2, .inl kp)), (m7, .inl (km7, 1525, .inl vl)), (m8, .inl (km8, 24, .inl pl))]) [0, 1, 2, 3, 4, 5, 6, 7, 8] rfl
    have hD9 := hD.sub (ws' := [(m0, .inr (4, [.ref m1, .ref m2, .int (nI bk), .ref m3, .ref m4, .ref m5, .ref m6, .int sd, .ref m7, .ref m8, .int cl, .int pc, .int op])), (m1, .inl (km1, 93, .inl nw)), (m2, .inl (km2, 93, .inl ws)), (m3, .inl (km3, 3720, .inl bc)), (m4, .inl (km4, 186, .inl im)), (m5, .inl (km5, 2, .inl isd)), (m6, .inl (km6, 2, .inl kp)), (m7, .inl (km7, 1525, .inl vl)), (m8, .inl (km8, 24, .inl pl))]) [0, 1, 2, 3, 4, 5, 6, 7, 8] (by decide) rfl
    have hK9 := hK.sub (tys' := [(km1, .int), (km2, .int), (km3, .int), (km4, .int), (km5, .int), (km6, .boolean), (km7, .int), (km8, .int)]) [0, 1, 2, 3, 4, 5, 6, 7] rfl
    subst hAe
    exact W.iret (v := ((-1000000001))) hx hb hr (fun t ht hW => ⟨⟨_, _, rfl, rfl, bk, sd, cl, pc, op, nw, ws, bc, im, isd, vl, pl, (by first | assumption | omega), (by first | assumption | omega), (by first | assumption | omega), (by first | assumption | omega), (by first | assumption | omega), by rw [ht]; exact hP9, va_K.moved hW.alike hK9, hD9⟩, hS.F ht⟩) hS.2.2 dX4_margin_12
set_option maxHeartbeats 4000000 in
set_option maxRecDepth 100000 in
theorem c_X4_store (l : Launch) (dC : Nat → ClassId) (dI : Nat → Nat → Nat) (m0 m1 m2 m3 m4 m5 m6 m7 m8 : Nat) (km1 km2 km3 km4 km5 km6 km7 km8 : ClassId) (sz : Nat) (bk : Nat) (sd : Int32) (cl : Int32) (pc : Int32) (op : Int32) (nw : Nat → Int32) (ws : Nat → Int32) (bc : Nat → Int32) (im : Nat → Int32) (isd : Nat → Int32) (kp : Nat → Int32) (vl : Nat → Int32) (pl : Nat → Int32) (h : Int32) (a : Int32) (i0 : bk ≤ 40) (i1 : okN nw) (i2 : okB 40 bc) (i3 : okB 2 im) (i4 : bdA 60 24 pl) : Met l yX4_store wsX4_store ({ frames := 7, cells := 0, slots := 0, locals := 162 }) (va_Pc [.ref m0, .int h, .int a] (fun U => U.heap.size = sz ∧ va_P (dC, dI) vwCl [(m0, .inr (4, [.ref m1, .ref m2, .int (nI bk), .ref m3, .ref m4, .ref m5, .ref m6, .int sd, .ref m7, .ref m8, .int cl, .int pc, .int op])), (m1, .inl (km1, 93, .inl nw)), (m2, .inl (km2, 93, .inl ws)), (m3, .inl (km3, 3720, .inl bc)), (m4, .inl (km4, 186, .inl im)), (m5, .inl (km5, 2, .inl isd)), (m6, .inl (km6, 2, .inl kp)), (m7, .inl (km7, 1525, .inl vl)), (m8, .inl (km8, 24, .inl pl))] U.heap ∧ va_K (dC, dI) vwCl [(km1, .int), (km2, .int), (km3, .int), (km4, .int), (km5, .int), (km6, .boolean), (km7, .int), (km8, .int)] U ∧ va_D (fun _ => True) [(m0, .inr (4, [.ref m1, .ref m2, .int (nI bk), .ref m3, .ref m4, .ref m5, .ref m6, .int sd, .ref m7, .ref m8, .int cl, .int pc, .int op])), (m1, .inl (km1, 93, .inl nw)), (m2, .inl (km2, 93, .inl ws)), (m3, .inl (km3, 3720, .inl bc)), (m4, .inl (km4, 186, .inl im)), (m5, .inl (km5, 2, .inl isd)), (m6, .inl (km6, 2, .inl kp)), (m7, .inl (km7, 1525, .inl vl)), (m8, .inl (km8, 24, .inl pl))])) (va_Qi (fun (r u : Int32) => u = r) (fun r t => ∃ (bk' : Nat) (sd' : Int32) (cl' : Int32) (pc' : Int32) (op' : Int32) (nw' : Nat → Int32) (ws' : Nat → Int32) (bc' : Nat → Int32) (im' : Nat → Int32) (isd' : Nat → Int32) (vl' : Nat → Int32) (pl' : Nat → Int32), bk' ≤ 40 ∧ okN nw' ∧ okB 40 bc' ∧ okB 2 im' ∧ bdA 60 24 pl' ∧ va_P (dC, dI) vwCl [(m0, .inr (4, [.ref m1, .ref m2, .int (nI bk'), .ref m3, .ref m4, .ref m5, .ref m6, .int sd', .ref m7, .ref m8, .int cl', .int pc', .int op'])), (m1, .inl (km1, 93, .inl nw')), (m2, .inl (km2, 93, .inl ws')), (m3, .inl (km3, 3720, .inl bc')), (m4, .inl (km4, 186, .inl im')), (m5, .inl (km5, 2, .inl isd')), (m6, .inl (km6, 2, .inl kp)), (m7, .inl (km7, 1525, .inl vl')), (m8, .inl (km8, 24, .inl pl'))] t.heap ∧ va_K (dC, dI) vwCl [(km1, .int), (km2, .int), (km3, .int), (km4, .int), (km5, .int), (km6, .boolean), (km7, .int), (km8, .int)] t ∧ va_D (va_A [(m0, .inr (4, [.ref m1, .ref m2, .int (nI bk), .ref m3, .ref m4, .ref m5, .ref m6, .int sd, .ref m7, .ref m8, .int cl, .int pc, .int op])), (m1, .inl (km1, 93, .inl nw)), (m2, .inl (km2, 93, .inl ws)), (m3, .inl (km3, 3720, .inl bc)), (m4, .inl (km4, 186, .inl im)), (m5, .inl (km5, 2, .inl isd)), (m6, .inl (km6, 2, .inl kp)), (m7, .inl (km7, 1525, .inl vl)), (m8, .inl (km8, 24, .inl pl))] sz) [(m0, .inr (4, [.ref m1, .ref m2, .int (nI bk'), .ref m3, .ref m4, .ref m5, .ref m6, .int sd', .ref m7, .ref m8, .int cl', .int pc', .int op'])), (m1, .inl (km1, 93, .inl nw')), (m2, .inl (km2, 93, .inl ws')), (m3, .inl (km3, 3720, .inl bc')), (m4, .inl (km4, 186, .inl im')), (m5, .inl (km5, 2, .inl isd')), (m6, .inl (km6, 2, .inl kp)), (m7, .inl (km7, 1525, .inl vl')), (m8, .inl (km8, 24, .inl pl'))]) (va_A [(m0, .inr (4, [.ref m1, .ref m2, .int (nI bk), .ref m3, .ref m4, .ref m5, .ref m6, .int sd, .ref m7, .ref m8, .int cl, .int pc, .int op])), (m1, .inl (km1, 93, .inl nw)), (m2, .inl (km2, 93, .inl ws)), (m3, .inl (km3, 3720, .inl bc)), (m4, .inl (km4, 186, .inl im)), (m5, .inl (km5, 2, .inl isd)), (m6, .inl (km6, 2, .inl kp)), (m7, .inl (km7, 1525, .inl vl)), (m8, .inl (km8, 24, .inl pl))] sz)) 0 0 (va_A [(m0, .inr (4, [.ref m1, .ref m2, .int (nI bk), .ref m3, .ref m4, .ref m5, .ref m6, .int sd, .ref m7, .ref m8, .int cl, .int pc, .int op])), (m1, .inl (km1, 93, .inl nw)), (m2, .inl (km2, 93, .inl ws)), (m3, .inl (km3, 3720, .inl bc)), (m4, .inl (km4, 186, .inl im)), (m5, .inl (km5, 2, .inl isd)), (m6, .inl (km6, 2, .inl kp)), (m7, .inl (km7, 1525, .inl vl)), (m8, .inl (km8, 24, .inl pl))] sz) := by
  refine Met.ofW (cc := cX4_store) (maxL := 3) (ret := (some .int)) (by decide) rfl ?_
  intro p e s m args below meth c s₁ B hml hv
  obtain ⟨rfl, hsz, hP, hK, hD0⟩ := hv
  have hx := B.exec
  have hb := B.bytes
  have hr := B.returns
  have hts := atoms_spec (ws := wsX4_store) B.pre
  have hown : s.vm.findClass RX4 = some m.cls := findClass_of_methodNamed B.named
  have hlocks := B.notSynchronized
  have inX4 : ∀ w ∈ wsX40, w ∈ wsX4_store := fun _ h => List.mem_cons_of_mem _ (List.mem_append_right _ h)
  subst hsz
  have hD := hD0.self (sz := s.heap.size)
  generalize hAe : va_A [(m0, .inr (4, [.ref m1, .ref m2, .int (nI bk), .ref m3, .ref m4, .ref m5, .ref m6, .int sd, .ref m7, .ref m8, .int cl, .int pc, .int op])), (m1, .inl (km1, 93, .inl nw)), (m2, .inl (km2, 93, .inl ws)), (m3, .inl (km3, 3720, .inl bc)), (m4, .inl (km4, 186, .inl im)), (m5, .inl (km5, 2, .inl isd)), (m6, .inl (km6, 2, .inl kp)), (m7, .inl (km7, 1525, .inl vl)), (m8, .inl (km8, 24, .inl pl))] s.heap.size = A at hD ⊢
  have hA : ∀ q : Nat, s.heap.size ≤ q → A q := fun q h => by rw [← hAe]; exact Or.inr h
  have hS : va_S A s.heap s.heap [] := va_S.rf
  have hl := lv_entry ([.ref m0, .int h, .int a]) (n := 3) (Nat.le_of_ble_eq_true rfl)
  rw [lg_entry_eq]
  generalize (lg_sl ([.ref m0, .int h, .int a]) ++ List.replicate (3 - (lg_sl ([.ref m0, .int h, .int a])).length) Slot.unset).toArray = ls at hl ⊢
  generalize hQe : MQ below _ _ s 0 0 _ = Q
  generalize ([.ref m0, .int h, .int a] : List Value).toArray = args at hts hQe ⊢
  have hl : lv_has ls 3 [(0, .ref m0), (1, .int h), (2, .int a)] := hl
  refine lv_iload_n hx hb dX4_store_0 rfl (lv_at hl 1 rfl) ?_
  refine lv_iconst (v := nI 0) hx hb dX4_store_1 (by decide) ?_
  refine lv_bipush (v := nI 9) hx hb dX4_store_2 (by decide) ?_
  refine va_calli (va_runS (As := [.int h, .int (nI 0), .int (nI 9)]) (rest := []) ⟨hx, hb, hml, hown, hts⟩ (c_X4_in l dC dI   h (nI 0) (nI 9)  ) (va_cwS 3 hts gX4_store_X4_in rfl rfl rfl (by decide +kernel) ⟨Nat.le_of_ble_eq_true rfl, Nat.le_of_ble_eq_true rfl⟩) ⟨fun a U g mk q => q, fun U hU hW => ⟨rfl, trivial⟩⟩ rfl rfl hl.1 rfl (lv_room (Nat.le_of_ble_eq_true rfl)) dX4_store_4 ⟨Nat.le_of_ble_eq_true rfl, Nat.le_of_ble_eq_true rfl⟩) hS (fun q _ h => h.elim) (fun q h => h.elim) (fun r_1 u9 t9 H1 locs ht hvm hw hB hz1 hk1 hS => ?_)
  refine W.widen (k := 0) (n := 0) (Nat.le_of_ble_eq_true rfl) (Nat.le_of_ble_eq_true rfl) ?_
  have hP := hP.kept (H1 := H1) (fun k q hk => hk1 q.1 (hP k q hk).lt (fun h => h))
  clear hz1 hk1 hB ht hvm t9
  generalize H1 = H at hP hS ⊢
  have hP : va_P (dC, dI) vwCl [(m0, .inr (4, [.ref m1, .ref m2, .int (nI bk), .ref m3, .ref m4, .ref m5, .ref m6, .int sd, .ref m7, .ref m8, .int cl, .int pc, .int op])), (m1, .inl (km1, 93, .inl nw)), (m2, .inl (km2, 93, .inl ws)), (m3, .inl (km3, 3720, .inl bc)), (m4, .inl (km4, 186, .inl im)), (m5, .inl (km5, 2, .inl isd)), (m6, .inl (km6, 2, .inl kp)), (m7, .inl (km7, 1525, .inl vl)), (m8, .inl (km8, 24, .inl pl))] H := hP
  have wr_1 := hw
  clear hw
  refine lv_if_eq (tgt := 20) hx hb dX4_store_7 (by decide) (fun c_7 => ?_) (fun c_7 => ?_)
  · have nc_7 := b_0 wr_1 c_7
    refine lv_ldc (own := RX4) (v := (-1000000002)) hx hb hown (hts (.constant RX4 110 (-1000000002)) (List.mem_of_getElem? (i := 1) rfl)) dX4_store_20 ?_
    subst hQe
    have hP9 := hP.sub (ws' := [(m0, .inr (4, [.ref m1, .ref m2, .int (nI bk), .ref m3, .ref m4, .ref m5, .ref m6, .int sd, .ref m7, .ref m8, .int cl, .int pc, .int op])), (m1, .inl (km1, 93, .inl nw)), (m2, .inl (km2, 93, .inl ws)), (m3, .inl (km3, 3720, .inl bc)), (m4, .inl (km4, 186, .inl im)), (m5, .inl (km5, 2, .inl isd)), (m6, .inl (km6, 2, .inl kp)), (m7, .inl (km7, 1525, .inl vl)), (m8, .inl (km8, 24, .inl pl))]) [0, 1, 2, 3, 4, 5, 6, 7, 8] rfl
    have hD9 := hD.sub (ws' := [(m0, .inr (4, [.ref m1, .ref m2, .int (nI bk), .ref m3, .ref m4, .ref m5, .ref m6, .int sd, .ref m7, .ref m8, .int cl, .int pc, .int op])), (m1, .inl (km1, 93, .inl nw)), (m2, .inl (km2, 93, .inl ws)), (m3, .inl (km3, 3720, .inl bc)), (m4, .inl (km4, 186, .inl im)), (m5, .inl (km5, 2, .inl isd)), (m6, .inl (km6, 2, .inl kp)), (m7, .inl (km7, 1525, .inl vl)), (m8, .inl (km8, 24, .inl pl))]) [0, 1, 2, 3, 4, 5, 6, 7, 8] (by decide) rfl
    have hK9 := hK.sub (tys' := [(km1, .int), (km2, .int), (km3, .int), (km4, .int), (km5, .int), (km6, .boolean), (km7, .int), (km8, .int)]) [0, 1, 2, 3, 4, 5, 6, 7] rfl
    subst hAe
    exact W.iret (v := ((-1000000002))) hx hb hr (fun t ht hW => ⟨⟨_, _, rfl, rfl, bk, sd, cl, pc, op, nw, ws, bc, im, isd, vl, pl, (by first | assumption | omega), (by first | assumption | omega), (by first | assumption | omega), (by first | assumption | omega), (by first | assumption | omega), by rw [ht]; exact hP9, va_K.moved hW.alike hK9, hD9⟩, hS.F ht⟩) hS.2.2 dX4_store_22
  · obtain ⟨j_2, hj_2, rfl⟩ := rg_0 (by decide) (b_1 wr_1 c_7)
    refine lv_iload_n hx hb dX4_store_10 rfl (lv_at hl 2 rfl) ?_
    refine lv_iconst (v := nI 0) hx hb dX4_store_11 (by decide) ?_
    refine lv_bipush (v := nI 9) hx hb dX4_store_12 (by decide) ?_
    refine va_calli (va_runS (As := [.int a, .int (nI 0), .int (nI 9)]) (rest := []) ⟨hx, hb, hml, hown, hts⟩ (c_X4_in l dC dI   a (nI 0) (nI 9)  ) (va_cwS 3 hts gX4_store_X4_in rfl rfl rfl (by decide +kernel) ⟨Nat.le_of_ble_eq_true rfl, Nat.le_of_ble_eq_true rfl⟩) ⟨fun a U g mk q => q, fun U hU hW => ⟨rfl, trivial⟩⟩ rfl rfl hl.1 rfl (lv_room (Nat.le_of_ble_eq_true rfl)) dX4_store_14 ⟨Nat.le_of_ble_eq_true rfl, Nat.le_of_ble_eq_true rfl⟩) hS (fun q _ h => h.elim) (fun q h => h.elim) (fun r_3 u9 t9 H1 locs ht hvm hw hB hz1 hk1 hS => ?_)
    refine W.widen (k := 0) (n := 0) (Nat.le_of_ble_eq_true rfl) (Nat.le_of_ble_eq_true rfl) ?_
    have hP := hP.kept (H1 := H1) (fun k q hk => hk1 q.1 (hP k q hk).lt (fun h => h))
    clear hz1 hk1 hB ht hvm t9
    generalize H1 = H at hP hS ⊢
    have hP : va_P (dC, dI) vwCl [(m0, .inr (4, [.ref m1, .ref m2, .int (nI bk), .ref m3, .ref m4, .ref m5, .ref m6, .int sd, .ref m7, .ref m8, .int cl, .int pc, .int op])), (m1, .inl (km1, 93, .inl nw)), (m2, .inl (km2, 93, .inl ws)), (m3, .inl (km3, 3720, .inl bc)), (m4, .inl (km4, 186, .inl im)), (m5, .inl (km5, 2, .inl isd)), (m6, .inl (km6, 2, .inl kp)), (m7, .inl (km7, 1525, .inl vl)), (m8, .inl (km8, 24, .inl pl))] H := hP
    have wr_3 := hw
    clear hw
    refine lv_if_ne (tgt := 23) hx hb dX4_store_17 (by decide) (fun c_17 => ?_) (fun c_17 => ?_)
    · obtain ⟨j_4, hj_4, rfl⟩ := rg_0 (by decide) (b_1 wr_3 c_17)
      refine lv_aload_n hx hb dX4_store_23 rfl (lv_at hl 0 rfl) ?_
      have hPc := hP.sub (ws' := [(m0, .inr (4, [.ref m1, .ref m2, .int (nI bk), .ref m3, .ref m4, .ref m5, .ref m6, .int sd, .ref m7, .ref m8, .int cl, .int pc, .int op])), (m1, .inl (km1, 93, .inl nw)), (m3, .inl (km3, 3720, .inl bc))]) [0, 1, 3] rfl
      have hKc := hK.sub (tys' := [(km1, .int), (km3, .int)]) [0, 2] rfl
      have hDc := hD.sub (ws' := [(m0, .inr (4, [.ref m1, .ref m2, .int (nI bk), .ref m3, .ref m4, .ref m5, .ref m6, .int sd, .ref m7, .ref m8, .int cl, .int pc, .int op])), (m1, .inl (km1, 93, .inl nw)), (m3, .inl (km3, 3720, .inl bc))]) [0, 1, 3] (by decide) rfl
      have hFc := va_free (wc := [(m0, .inr (4, [.ref m1, .ref m2, .int (nI bk), .ref m3, .ref m4, .ref m5, .ref m6, .int sd, .ref m7, .ref m8, .int cl, .int pc, .int op])), (m1, .inl (km1, 93, .inl nw)), (m3, .inl (km3, 3720, .inl bc))]) hD hS hA [0, 1, 3] rfl
      refine va_callv (va_runV (As := []) (rest := []) ⟨hx, hb, hml, hown, hts⟩ (c_X4_note l dC dI m0 m1 m3 m2 m4 m5 m6 m7 m8 km1 km3 H.size bk sd cl pc op nw bc  (by first | assumption | omega) (by first | assumption | omega) (by first | assumption | omega) ) (cwV 0 hts gX4_store_X4_note rfl rfl rfl (by decide +kernel) ⟨Nat.le_of_ble_eq_true rfl, Nat.le_of_ble_eq_true rfl⟩) ⟨fun a U g mk q => by obtain ⟨q0, q1, qP, qK, qD⟩ := q; exact ⟨q0, q1, qP, va_K.moved (u := U) (U := U.calling g mk a) (Vm.Alike.refl U.vm) qK, qD⟩, va_recv hKc hPc (ci := 4) (q0 := 0) rfl rfl, fun U hU hW => ⟨rfl, by rw [hU], by rw [hU]; exact hPc, va_K.moved hW.alike hKc, hDc.weaken (fun _ _ _ _ => trivial)⟩⟩ rfl rfl hl.1 rfl (lv_room (Nat.le_of_ble_eq_true rfl)) dX4_store_24 ⟨Nat.le_of_ble_eq_true rfl, Nat.le_of_ble_eq_true rfl⟩) hS (fun q _ h => hFc q h) hFc (fun u9 t9 H1 locs ht hvm hw hB hz1 hk1 hS => ?_)
      refine W.widen (k := 0) (n := 0) (Nat.le_of_ble_eq_true rfl) (Nat.le_of_ble_eq_true rfl) ?_
      obtain ⟨⟩ := u9
      obtain ⟨bk_6, bc_7, h_8, h_9, hP1, hK1, hD1⟩ := hB
      rw [ht] at hP1
      obtain ⟨hP, hD⟩ := va_join (wr := [(m2, .inl (km2, 93, .inl ws)), (m4, .inl (km4, 186, .inl im)), (m5, .inl (km5, 2, .inl isd)), (m6, .inl (km6, 2, .inl kp)), (m7, .inl (km7, 1525, .inl vl)), (m8, .inl (km8, 24, .inl pl))]) (w1 := [(m0, .inr (4, [.ref m1, .ref m2, .int (nI bk_6), .ref m3, .ref m4, .ref m5, .ref m6, .int sd, .ref m7, .ref m8, .int cl, .int pc, .int op])), (m1, .inl (km1, 93, .inl nw)), (m3, .inl (km3, 3720, .inl bc_7))]) hP hD [0, 1, 3] [2, 4, 5, 6, 7, 8] rfl rfl (by decide) (by decide) hk1 hFc hP1 hD1
      clear hPc hDc hKc hFc hz1 hk1 ht hvm hP1 hK1 hD1 hw t9
      generalize H1 = H at hP hS ⊢
      have hP := hP.sub (ws' := [(m0, .inr (4, [.ref m1, .ref m2, .int (nI bk_6), .ref m3, .ref m4, .ref m5, .ref m6, .int sd, .ref m7, .ref m8, .int cl, .int pc, .int op])), (m1, .inl (km1, 93, .inl nw)), (m2, .inl (km2, 93, .inl ws)), (m3, .inl (km3, 3720, .inl bc_7)), (m4, .inl (km4, 186, .inl im)), (m5, .inl (km5, 2, .inl isd)), (m6, .inl (km6, 2, .inl kp)), (m7, .inl (km7, 1525, .inl vl)), (m8, .inl (km8, 24, .inl pl))]) [6, 7, 0, 8, 1, 2, 3, 4, 5] rfl
      have hD := hD.sub (ws' := [(m0, .inr (4, [.ref m1, .ref m2, .int (nI bk_6), .ref m3, .ref m4, .ref m5, .ref m6, .int sd, .ref m7, .ref m8, .int cl, .int pc, .int op])), (m1, .inl (km1, 93, .inl nw)), (m2, .inl (km2, 93, .inl ws)), (m3, .inl (km3, 3720, .inl bc_7)), (m4, .inl (km4, 186, .inl im)), (m5, .inl (km5, 2, .inl isd)), (m6, .inl (km6, 2, .inl kp)), (m7, .inl (km7, 1525, .inl vl)), (m8, .inl (km8, 24, .inl pl))]) [6, 7, 0, 8, 1, 2, 3, 4, 5] (by decide) rfl
      refine lv_aload_n hx hb dX4_store_27 rfl (lv_at hl 0 rfl) ?_
      refine va_get (D := (dC, dI)) (ci := 4) (v := .ref m1) (C := RX4) (T := TX4) (N := 13) hx hb hts inX4 hown hK hP 0 rfl rfl 0 (by decide) (hts (.fieldLink RX4 7 "StoreSlopesModel" "now" "[I") (List.mem_of_getElem? (i := 2) rfl)) (fun _ h9 => h9) rfl dX4_store_28 ?_
      refine lv_iconst (v := nI 2) hx hb dX4_store_31 (by decide) ?_
      refine lv_iload_n hx hb dX4_store_32 rfl (lv_at hl 1 rfl) ?_
      refine va_iast hx hb hK hP hD hS 1 0 rfl rfl (vp_in_nI (show 2 < 93 by omega) (by omega)) dX4_store_33 (fun H locs hP hD hS => ?_)
      have hP : va_P (dC, dI) vwCl [(m0, .inr (4, [.ref m1, .ref m2, .int (nI bk_6), .ref m3, .ref m4, .ref m5, .ref m6, .int sd, .ref m7, .ref m8, .int cl, .int pc, .int op])), (m1, .inl (km1, 93, .inl (upd nw (nI 2).toNatClampNeg (nI j_2)))), (m2, .inl (km2, 93, .inl ws)), (m3, .inl (km3, 3720, .inl bc_7)), (m4, .inl (km4, 186, .inl im)), (m5, .inl (km5, 2, .inl isd)), (m6, .inl (km6, 2, .inl kp)), (m7, .inl (km7, 1525, .inl vl)), (m8, .inl (km8, 24, .inl pl))] H := hP
      have hD : va_D A [(m0, .inr (4, [.ref m1, .ref m2, .int (nI bk_6), .ref m3, .ref m4, .ref m5, .ref m6, .int sd, .ref m7, .ref m8, .int cl, .int pc, .int op])), (m1, .inl (km1, 93, .inl (upd nw (nI 2).toNatClampNeg (nI j_2)))), (m2, .inl (km2, 93, .inl ws)), (m3, .inl (km3, 3720, .inl bc_7)), (m4, .inl (km4, 186, .inl im)), (m5, .inl (km5, 2, .inl isd)), (m6, .inl (km6, 2, .inl kp)), (m7, .inl (km7, 1525, .inl vl)), (m8, .inl (km8, 24, .inl pl))] := hD
      generalize ef_10 : upd nw (nI 2).toNatClampNeg (nI j_2) = f_10 at hP hD
      have bf_10 : okN f_10 := okN_upd (by assumption) ef_10 (by omega) (by refine ⟨fun q => ?_, fun q => ?_, fun q => ?_, fun q => ?_, fun q => ?_, fun q q2 => ?_⟩ <;> first | (exfalso; omega) | exact ⟨_, by omega, rfl⟩)
      clear ef_10
      refine lv_aload_n hx hb dX4_store_34 rfl (lv_at hl 0 rfl) ?_
      refine va_get (D := (dC, dI)) (ci := 4) (v := .ref m1) (C := RX4) (T := TX4) (N := 13) hx hb hts inX4 hown hK hP 0 rfl rfl 0 (by decide) (hts (.fieldLink RX4 7 "StoreSlopesModel" "now" "[I") (List.mem_of_getElem? (i := 2) rfl)) (fun _ h9 => h9) rfl dX4_store_35 ?_
      refine lv_iconst (v := nI 3) hx hb dX4_store_38 (by decide) ?_
      refine lv_iload_n hx hb dX4_store_39 rfl (lv_at hl 2 rfl) ?_
      refine va_iast hx hb hK hP hD hS 1 0 rfl rfl (vp_in_nI (show 3 < 93 by omega) (by omega)) dX4_store_40 (fun H locs hP hD hS => ?_)
      have hP : va_P (dC, dI) vwCl [(m0, .inr (4, [.ref m1, .ref m2, .int (nI bk_6), .ref m3, .ref m4, .ref m5, .ref m6, .int sd, .ref m7, .ref m8, .int cl, .int pc, .int op])), (m1, .inl (km1, 93, .inl (upd f_10 (nI 3).toNatClampNeg (nI j_4)))), (m2, .inl (km2, 93, .inl ws)), (m3, .inl (km3, 3720, .inl bc_7)), (m4, .inl (km4, 186, .inl im)), (m5, .inl (km5, 2, .inl isd)), (m6, .inl (km6, 2, .inl kp)), (m7, .inl (km7, 1525, .inl vl)), (m8, .inl (km8, 24, .inl pl))] H := hP
      have hD : va_D A [(m0, .inr (4, [.ref m1, .ref m2, .int (nI bk_6), .ref m3, .ref m4, .ref m5, .ref m6, .int sd, .ref m7, .ref m8, .int cl, .int pc, .int op])), (m1, .inl (km1, 93, .inl (upd f_10 (nI 3).toNatClampNeg (nI j_4)))), (m2, .inl (km2, 93, .inl ws)), (m3, .inl (km3, 3720, .inl bc_7)), (m4, .inl (km4, 186, .inl im)), (m5, .inl (km5, 2, .inl isd)), (m6, .inl (km6, 2, .inl kp)), (m7, .inl (km7, 1525, .inl vl)), (m8, .inl (km8, 24, .inl pl))] := hD
      generalize ef_11 : upd f_10 (nI 3).toNatClampNeg (nI j_4) = f_11 at hP hD
      have bf_11 : okN f_11 := okN_upd (by assumption) ef_11 (by omega) (by refine ⟨fun q => ?_, fun q => ?_, fun q => ?_, fun q => ?_, fun q => ?_, fun q q2 => ?_⟩ <;> first | (exfalso; omega) | exact ⟨_, by omega, rfl⟩)
      clear ef_11
      refine lv_aload_n hx hb dX4_store_41 rfl (lv_at hl 0 rfl) ?_
      have hPc := hP.sub (ws' := [(m0, .inr (4, [.ref m1, .ref m2, .int (nI bk_6), .ref m3, .ref m4, .ref m5, .ref m6, .int sd, .ref m7, .ref m8, .int cl, .int pc, .int op])), (m1, .inl (km1, 93, .inl f_11)), (m7, .inl (km7, 1525, .inl vl))]) [0, 1, 7] rfl
      have hKc := hK.sub (tys' := [(km1, .int), (km7, .int)]) [0, 6] rfl
      have hDc := hD.sub (ws' := [(m0, .inr (4, [.ref m1, .ref m2, .int (nI bk_6), .ref m3, .ref m4, .ref m5, .ref m6, .int sd, .ref m7, .ref m8, .int cl, .int pc, .int op])), (m1, .inl (km1, 93, .inl f_11)), (m7, .inl (km7, 1525, .inl vl))]) [0, 1, 7] (by decide) rfl
      have hFc := va_free (wc := [(m0, .inr (4, [.ref m1, .ref m2, .int (nI bk_6), .ref m3, .ref m4, .ref m5, .ref m6, .int sd, .ref m7, .ref m8, .int cl, .int pc, .int op])), (m1, .inl (km1, 93, .inl f_11)), (m7, .inl (km7, 1525, .inl vl))]) hD hS hA [0, 1, 7] rfl
      refine va_calli (va_runV (As := []) (rest := []) ⟨hx, hb, hml, hown, hts⟩ (c_X4_bestOf l dC dI m0 m1 m7 m2 m3 m4 m5 m6 m8 km1 km7 H.size bk_6 sd cl pc op f_11 vl  (by first | assumption | omega) (by first | assumption | omega) ) (cwV 0 hts gX4_store_X4_bestOf rfl rfl rfl (by decide +kernel) ⟨Nat.le_of_ble_eq_true rfl, Nat.le_of_ble_eq_true rfl⟩) ⟨fun a U g mk q => by obtain ⟨q0, q1, qP, qK, qD⟩ := q; exact ⟨q0, q1, qP, va_K.moved (u := U) (U := U.calling g mk a) (Vm.Alike.refl U.vm) qK, qD⟩, va_recv hKc hPc (ci := 4) (q0 := 0) rfl rfl, fun U hU hW => ⟨rfl, by rw [hU], by rw [hU]; exact hPc, va_K.moved hW.alike hKc, hDc.weaken (fun _ _ _ _ => trivial)⟩⟩ rfl rfl hl.1 rfl (lv_room (Nat.le_of_ble_eq_true rfl)) dX4_store_42 ⟨Nat.le_of_ble_eq_true rfl, Nat.le_of_ble_eq_true rfl⟩) hS (fun q _ h => hFc q h) hFc (fun r_12 u9 t9 H1 locs ht hvm hw hB hz1 hk1 hS => ?_)
      refine W.widen (k := 0) (n := 0) (Nat.le_of_ble_eq_true rfl) (Nat.le_of_ble_eq_true rfl) ?_
      obtain ⟨vl_13, h_14, h_15, hP1, hK1, hD1⟩ := hB
      rw [ht] at hP1
      have hw := hw.symm
      subst hw
      obtain ⟨hP, hD⟩ := va_join (wr := [(m2, .inl (km2, 93, .inl ws)), (m3, .inl (km3, 3720, .inl bc_7)), (m4, .inl (km4, 186, .inl im)), (m5, .inl (km5, 2, .inl isd)), (m6, .inl (km6, 2, .inl kp)), (m8, .inl (km8, 24, .inl pl))]) (w1 := [(m0, .inr (4, [.ref m1, .ref m2, .int (nI bk_6), .ref m3, .ref m4, .ref m5, .ref m6, .int sd, .ref m7, .ref m8, .int cl, .int pc, .int op])), (m1, .inl (km1, 93, .inl f_11)), (m7, .inl (km7, 1525, .inl vl_13))]) hP hD [0, 1, 7] [2, 3, 4, 5, 6, 8] rfl rfl (by decide) (by decide) hk1 hFc hP1 hD1
      clear hPc hDc hKc hFc hz1 hk1 ht hvm hP1 hK1 hD1 t9
      generalize H1 = H at hP hS ⊢
      have hP := hP.sub (ws' := [(m0, .inr (4, [.ref m1, .ref m2, .int (nI bk_6), .ref m3, .ref m4, .ref m5, .ref m6, .int sd, .ref m7, .ref m8, .int cl, .int pc, .int op])), (m1, .inl (km1, 93, .inl f_11)), (m2, .inl (km2, 93, .inl ws)), (m3, .inl (km3, 3720, .inl bc_7)), (m4, .inl (km4, 186, .inl im)), (m5, .inl (km5, 2, .inl isd)), (m6, .inl (km6, 2, .inl kp)), (m7, .inl (km7, 1525, .inl vl_13)), (m8, .inl (km8, 24, .inl pl))]) [6, 7, 0, 1, 2, 3, 4, 8, 5] rfl
      have hD := hD.sub (ws' := [(m0, .inr (4, [.ref m1, .ref m2, .int (nI bk_6), .ref m3, .ref m4, .ref m5, .ref m6, .int sd, .ref m7, .ref m8, .int cl, .int pc, .int op])), (m1, .inl (km1, 93, .inl f_11)), (m2, .inl (km2, 93, .inl ws)), (m3, .inl (km3, 3720, .inl bc_7)), (m4, .inl (km4, 186, .inl im)), (m5, .inl (km5, 2, .inl isd)), (m6, .inl (km6, 2, .inl kp)), (m7, .inl (km7, 1525, .inl vl_13)), (m8, .inl (km8, 24, .inl pl))]) [6, 7, 0, 1, 2, 3, 4, 8, 5] (by decide) rfl
      refine va_calli (va_runS (As := [.int r_12]) (rest := []) ⟨hx, hb, hml, hown, hts⟩ (c_X4_shown l dC dI   r_12  ) (va_cwS 1 hts gX4_store_X4_shown rfl rfl rfl (by decide +kernel) ⟨Nat.le_of_ble_eq_true rfl, Nat.le_of_ble_eq_true rfl⟩) ⟨fun a U g mk q => q, fun U hU hW => ⟨rfl, trivial⟩⟩ rfl rfl hl.1 rfl (lv_room (Nat.le_of_ble_eq_true rfl)) dX4_store_45 ⟨Nat.le_of_ble_eq_true rfl, Nat.le_of_ble_eq_true rfl⟩) hS (fun q _ h => h.elim) (fun q h => h.elim) (fun r_17 u9 t9 H1 locs ht hvm hw hB hz1 hk1 hS => ?_)
      refine W.widen (k := 0) (n := 0) (Nat.le_of_ble_eq_true rfl) (Nat.le_of_ble_eq_true rfl) ?_
      have hP := hP.kept (H1 := H1) (fun k q hk => hk1 q.1 (hP k q hk).lt (fun h => h))
      clear hz1 hk1 hB ht hvm t9
      generalize H1 = H at hP hS ⊢
      have hP : va_P (dC, dI) vwCl [(m0, .inr (4, [.ref m1, .ref m2, .int (nI bk_6), .ref m3, .ref m4, .ref m5, .ref m6, .int sd, .ref m7, .ref m8, .int cl, .int pc, .int op])), (m1, .inl (km1, 93, .inl f_11)), (m2, .inl (km2, 93, .inl ws)), (m3, .inl (km3, 3720, .inl bc_7)), (m4, .inl (km4, 186, .inl im)), (m5, .inl (km5, 2, .inl isd)), (m6, .inl (km6, 2, .inl kp)), (m7, .inl (km7, 1525, .inl vl_13)), (m8, .inl (km8, 24, .inl pl))] H := hP
      clear hw
      subst hQe
      have hP9 := hP.sub (ws' := [(m0, .inr (4, [.ref m1, .ref m2, .int (nI bk_6), .ref m3, .ref m4, .ref m5, .ref m6, .int sd, .ref m7, .ref m8, .int cl, .int pc, .int op])), (m1, .inl (km1, 93, .inl f_11)), (m2, .inl (km2, 93, .inl ws)), (m3, .inl (km3, 3720, .inl bc_7)), (m4, .inl (km4, 186, .inl im)), (m5, .inl (km5, 2, .inl isd)), (m6, .inl (km6, 2, .inl kp)), (m7, .inl (km7, 1525, .inl vl_13)), (m8, .inl (km8, 24, .inl pl))]) [0, 1, 2, 3, 4, 5, 6, 7, 8] rfl
      have hD9 := hD.sub (ws' := [(m0, .inr (4, [.ref m1, .ref m2, .int (nI bk_6), .ref m3, .ref m4, .ref m5, .ref m6, .int sd, .ref m7, .ref m8, .int cl, .int pc, .int op])), (m1, .inl (km1, 93, .inl f_11)), (m2, .inl (km2, 93, .inl ws)), (m3, .inl (km3, 3720, .inl bc_7)), (m4, .inl (km4, 186, .inl im)), (m5, .inl (km5, 2, .inl isd)), (m6, .inl (km6, 2, .inl kp)), (m7, .inl (km7, 1525, .inl vl_13)), (m8, .inl (km8, 24, .inl pl))]) [0, 1, 2, 3, 4, 5, 6, 7, 8] (by decide) rfl
      have hK9 := hK.sub (tys' := [(km1, .int), (km2, .int), (km3, .int), (km4, .int), (km5, .int), (km6, .boolean), (km7, .int), (km8, .int)]) [0, 1, 2, 3, 4, 5, 6, 7] rfl
      subst hAe
      exact W.iret (v := r_17) hx hb hr (fun t ht hW => ⟨⟨_, _, rfl, rfl, bk_6, sd, cl, pc, op, f_11, ws, bc_7, im, isd, vl_13, pl, (by first | assumption | omega), (by first | assumption | omega), (by first | assumption | omega), (by first | assumption | omega), (by first | assumption | omega), by rw [ht]; exact hP9, va_K.moved hW.alike hK9, hD9⟩, hS.F ht⟩) hS.2.2 dX4_store_48
    · have nc_17 := b_0 wr_3 c_17
      refine lv_ldc (own := RX4) (v := (-1000000002)) hx hb hown (hts (.constant RX4 110 (-1000000002)) (List.mem_of_getElem? (i := 1) rfl)) dX4_store_20 ?_
      subst hQe
      have hP9 := hP.sub (ws' := [(m0, .inr (4, [.ref m1, .ref m2, .int (nI bk), .ref m3, .ref m4, .ref m5, .ref m6, .int sd, .ref m7, .ref m8, .int cl, .int pc, .int op])), (m1, .inl (km1, 93, .inl nw)), (m2, .inl (km2, 93, .inl ws)), (m3, .inl (km3, 3720, .inl bc)), (m4, .inl (km4, 186, .inl im)), (m5, .inl (km5, 2, .inl isd)), (m6, .inl (km6, 2, .inl kp)), (m7, .inl (km7, 1525, .inl vl)), (m8, .inl (km8, 24, .inl pl))]) [0, 1, 2, 3, 4, 5, 6, 7, 8] rfl
      have hD9 := hD.sub (ws' := [(m0, .inr (4, [.ref m1, .ref m2, .int (nI bk), .ref m3, .ref m4, .ref m5, .ref m6, .int sd, .ref m7, .ref m8, .int cl, .int pc, .int op])), (m1, .inl (km1, 93, .inl nw)), (m2, .inl (km2, 93, .inl ws)), (m3, .inl (km3, 3720, .inl bc)), (m4, .inl (km4, 186, .inl im)), (m5, .inl (km5, 2, .inl isd)), (m6, .inl (km6, 2, .inl kp)), (m7, .inl (km7, 1525, .inl vl)), (m8, .inl (km8, 24, .inl pl))]) [0, 1, 2, 3, 4, 5, 6, 7, 8] (by decide) rfl
      have hK9 := hK.sub (tys' := [(km1, .int), (km2, .int), (km3, .int), (km4, .int), (km5, .int), (km6, .boolean), (km7, .int), (km8, .int)]) [0, 1, 2, 3, 4, 5, 6, 7] rfl
      subst hAe
      exact W.iret (v := ((-1000000002))) hx hb hr (fun t ht hW => ⟨⟨_, _, rfl, rfl, bk, sd, cl, pc, op, nw, ws, bc, im, isd, vl, pl, (by first | assumption | omega), (by first | assumption | omega), (by first | assumption | omega), (by first | assumption | omega), (by first | assumption | omega), by rw [ht]; exact hP9, va_K.moved hW.alike hK9, hD9⟩, hS.F ht⟩) hS.2.2 dX4_store_22
set_option maxHeartbeats 4000000 in
set_option maxRecDepth 100000 in
theorem c_X4_room (l : Launch) (dC : Nat → ClassId) (dI : Nat → Nat → Nat) (m0 m1 m2 m3 m4 m5 m6 m7 m8 : Nat) (km1 km2 km3 km4 km5 km6 km7 km8 : ClassId) (sz : Nat) (bk : Nat) (sd : Int32) (cl : Int32) (pc : Int32) (op : Int32) (nw : Nat → Int32) (ws : Nat → Int32) (bc : Nat → Int32) (im : Nat → Int32) (isd : Nat → Int32) (kp : Nat → Int32) (vl : Nat → Int32) (pl : Nat → Int32) (f : Int32) (u : Int32) (v : Int32) (i0 : bk ≤ 40) (i1 : okN nw) (i2 : okB 40 bc) (i3 : okB 2 im) (i4 : bdA 60 24 pl) : Met l yX4_room wsX4_room ({ frames := 7, cells := 0, slots := 0, locals := 162 }) (va_Pc [.ref m0, .int f, .int u, .int v] (fun U => U.heap.size = sz ∧ va_P (dC, dI) vwCl [(m0, .inr (4, [.ref m1, .ref m2, .int (nI bk), .ref m3, .ref m4, .ref m5, .ref m6, .int sd, .ref m7, .ref m8, .int cl, .int pc, .int op])), (m1, .inl (km1, 93, .inl nw)), (m2, .inl (km2, 93, .inl ws)), (m3, .inl (km3, 3720, .inl bc)), (m4, .inl (km4, 186, .inl im)), (m5, .inl (km5, 2, .inl isd)), (m6, .inl (km6, 2, .inl kp)), (m7, .inl (km7, 1525, .inl vl)), (m8, .inl (km8, 24, .inl pl))] U.heap ∧ va_K (dC, dI) vwCl [(km1, .int), (km2, .int), (km3, .int), (km4, .int), (km5, .int), (km6, .boolean), (km7, .int), (km8, .int)] U ∧ va_D (fun _ => True) [(m0, .inr (4, [.ref m1, .ref m2, .int (nI bk), .ref m3, .ref m4, .ref m5, .ref m6, .int sd, .ref m7, .ref m8, .int cl, .int pc, .int op])), (m1, .inl (km1, 93, .inl nw)), (m2, .inl (km2, 93, .inl ws)), (m3, .inl (km3, 3720, .inl bc)), (m4, .inl (km4, 186, .inl im)), (m5, .inl (km5, 2, .inl isd)), (m6, .inl (km6, 2, .inl kp)), (m7, .inl (km7, 1525, .inl vl)), (m8, .inl (km8, 24, .inl pl))])) (va_Qi (fun (r u : Int32) => u = r) (fun r t => ∃ (bk' : Nat) (sd' : Int32) (cl' : Int32) (pc' : Int32) (op' : Int32) (nw' : Nat → Int32) (ws' : Nat → Int32) (bc' : Nat → Int32) (im' : Nat → Int32) (isd' : Nat → Int32) (vl' : Nat → Int32) (pl' : Nat → Int32), bk' ≤ 40 ∧ okN nw' ∧ okB 40 bc' ∧ okB 2 im' ∧ bdA 60 24 pl' ∧ va_P (dC, dI) vwCl [(m0, .inr (4, [.ref m1, .ref m2, .int (nI bk'), .ref m3, .ref m4, .ref m5, .ref m6, .int sd', .ref m7, .ref m8, .int cl', .int pc', .int op'])), (m1, .inl (km1, 93, .inl nw')), (m2, .inl (km2, 93, .inl ws')), (m3, .inl (km3, 3720, .inl bc')), (m4, .inl (km4, 186, .inl im')), (m5, .inl (km5, 2, .inl isd')), (m6, .inl (km6, 2, .inl kp)), (m7, .inl (km7, 1525, .inl vl')), (m8, .inl (km8, 24, .inl pl'))] t.heap ∧ va_K (dC, dI) vwCl [(km1, .int), (km2, .int), (km3, .int), (km4, .int), (km5, .int), (km6, .boolean), (km7, .int), (km8, .int)] t ∧ va_D (va_A [(m0, .inr (4, [.ref m1, .ref m2, .int (nI bk), .ref m3, .ref m4, .ref m5, .ref m6, .int sd, .ref m7, .ref m8, .int cl, .int pc, .int op])), (m1, .inl (km1, 93, .inl nw)), (m2, .inl (km2, 93, .inl ws)), (m3, .inl (km3, 3720, .inl bc)), (m4, .inl (km4, 186, .inl im)), (m5, .inl (km5, 2, .inl isd)), (m6, .inl (km6, 2, .inl kp)), (m7, .inl (km7, 1525, .inl vl)), (m8, .inl (km8, 24, .inl pl))] sz) [(m0, .inr (4, [.ref m1, .ref m2, .int (nI bk'), .ref m3, .ref m4, .ref m5, .ref m6, .int sd', .ref m7, .ref m8, .int cl', .int pc', .int op'])), (m1, .inl (km1, 93, .inl nw')), (m2, .inl (km2, 93, .inl ws')), (m3, .inl (km3, 3720, .inl bc')), (m4, .inl (km4, 186, .inl im')), (m5, .inl (km5, 2, .inl isd')), (m6, .inl (km6, 2, .inl kp)), (m7, .inl (km7, 1525, .inl vl')), (m8, .inl (km8, 24, .inl pl'))]) (va_A [(m0, .inr (4, [.ref m1, .ref m2, .int (nI bk), .ref m3, .ref m4, .ref m5, .ref m6, .int sd, .ref m7, .ref m8, .int cl, .int pc, .int op])), (m1, .inl (km1, 93, .inl nw)), (m2, .inl (km2, 93, .inl ws)), (m3, .inl (km3, 3720, .inl bc)), (m4, .inl (km4, 186, .inl im)), (m5, .inl (km5, 2, .inl isd)), (m6, .inl (km6, 2, .inl kp)), (m7, .inl (km7, 1525, .inl vl)), (m8, .inl (km8, 24, .inl pl))] sz)) 0 0 (va_A [(m0, .inr (4, [.ref m1, .ref m2, .int (nI bk), .ref m3, .ref m4, .ref m5, .ref m6, .int sd, .ref m7, .ref m8, .int cl, .int pc, .int op])), (m1, .inl (km1, 93, .inl nw)), (m2, .inl (km2, 93, .inl ws)), (m3, .inl (km3, 3720, .inl bc)), (m4, .inl (km4, 186, .inl im)), (m5, .inl (km5, 2, .inl isd)), (m6, .inl (km6, 2, .inl kp)), (m7, .inl (km7, 1525, .inl vl)), (m8, .inl (km8, 24, .inl pl))] sz) := by
  refine Met.ofW (cc := cX4_room) (maxL := 5) (ret := (some .int)) (by decide) rfl ?_
  intro p e s m args below meth c s₁ B hml hv
  obtain ⟨rfl, hsz, hP, hK, hD0⟩ := hv
  have hx := B.exec
  have hb := B.bytes
  have hr := B.returns
  have hts := atoms_spec (ws := wsX4_room) B.pre
  have hown : s.vm.findClass RX4 = some m.cls := findClass_of_methodNamed B.named
  have hlocks := B.notSynchronized
  have inX4 : ∀ w ∈ wsX40, w ∈ wsX4_room := fun _ h => List.mem_cons_of_mem _ (List.mem_append_right _ h)
  subst hsz
  have hD := hD0.self (sz := s.heap.size)
  generalize hAe : va_A [(m0, .inr (4, [.ref m1, .ref m2, .int (nI bk), .ref m3, .ref m4, .ref m5, .ref m6, .int sd, .ref m7, .ref m8, .int cl, .int pc, .int op])), (m1, .inl (km1, 93, .inl nw)), (m2, .inl (km2, 93, .inl ws)), (m3, .inl (km3, 3720, .inl bc)), (m4, .inl (km4, 186, .inl im)), (m5, .inl (km5, 2, .inl isd)), (m6, .inl (km6, 2, .inl kp)), (m7, .inl (km7, 1525, .inl vl)), (m8, .inl (km8, 24, .inl pl))] s.heap.size = A at hD ⊢
  have hA : ∀ q : Nat, s.heap.size ≤ q → A q := fun q h => by rw [← hAe]; exact Or.inr h
  have hS : va_S A s.heap s.heap [] := va_S.rf
  have hl := lv_entry ([.ref m0, .int f, .int u, .int v]) (n := 5) (Nat.le_of_ble_eq_true rfl)
  rw [lg_entry_eq]
  generalize (lg_sl ([.ref m0, .int f, .int u, .int v]) ++ List.replicate (5 - (lg_sl ([.ref m0, .int f, .int u, .int v])).length) Slot.unset).toArray = ls at hl ⊢
  generalize hQe : MQ below _ _ s 0 0 _ = Q
  generalize ([.ref m0, .int f, .int u, .int v] : List Value).toArray = args at hts hQe ⊢
  have hl : lv_has ls 5 [(0, .ref m0), (1, .int f), (2, .int u), (3, .int v)] := hl
  refine lv_iload_n hx hb dX4_room_0 rfl (lv_at hl 1 rfl) ?_
  refine va_calli (va_runS (As := [.int f]) (rest := []) ⟨hx, hb, hml, hown, hts⟩ (c_X4_isHour l dC dI   f  ) (va_cwS 1 hts gX4_room_X4_isHour rfl rfl rfl (by decide +kernel) ⟨Nat.le_of_ble_eq_true rfl, Nat.le_of_ble_eq_true rfl⟩) ⟨fun a U g mk q => q, fun U hU hW => ⟨rfl, trivial⟩⟩ rfl rfl hl.1 rfl (lv_room (Nat.le_of_ble_eq_true rfl)) dX4_room_1 ⟨Nat.le_of_ble_eq_true rfl, Nat.le_of_ble_eq_true rfl⟩) hS (fun q _ h => h.elim) (fun q h => h.elim) (fun r_1 u9 t9 H1 locs ht hvm hw hB hz1 hk1 hS => ?_)
  refine W.widen (k := 0) (n := 0) (Nat.le_of_ble_eq_true rfl) (Nat.le_of_ble_eq_true rfl) ?_
  have hP := hP.kept (H1 := H1) (fun k q hk => hk1 q.1 (hP k q hk).lt (fun h => h))
  clear hz1 hk1 hB ht hvm t9
  generalize H1 = H at hP hS ⊢
  have hP : va_P (dC, dI) vwCl [(m0, .inr (4, [.ref m1, .ref m2, .int (nI bk), .ref m3, .ref m4, .ref m5, .ref m6, .int sd, .ref m7, .ref m8, .int cl, .int pc, .int op])), (m1, .inl (km1, 93, .inl nw)), (m2, .inl (km2, 93, .inl ws)), (m3, .inl (km3, 3720, .inl bc)), (m4, .inl (km4, 186, .inl im)), (m5, .inl (km5, 2, .inl isd)), (m6, .inl (km6, 2, .inl kp)), (m7, .inl (km7, 1525, .inl vl)), (m8, .inl (km8, 24, .inl pl))] H := hP
  have wr_1 := hw
  clear hw
  refine lv_if_eq (tgt := 14) hx hb dX4_room_4 (by decide) (fun c_4 => ?_) (fun c_4 => ?_)
  · have nc_4 := b_0 wr_1 c_4
    refine lv_ldc (own := RX4) (v := (-1000000001)) hx hb hown (hts (.constant RX4 109 (-1000000001)) (List.mem_of_getElem? (i := 1) rfl)) dX4_room_14 ?_
    subst hQe
    have hP9 := hP.sub (ws' := [(m0, .inr (4, [.ref m1, .ref m2, .int (nI bk), .ref m3, .ref m4, .ref m5, .ref m6, .int sd, .ref m7, .ref m8, .int cl, .int pc, .int op])), (m1, .inl (km1, 93, .inl nw)), (m2, .inl (km2, 93, .inl ws)), (m3, .inl (km3, 3720, .inl bc)), (m4, .inl (km4, 186, .inl im)), (m5, .inl (km5, 2, .inl isd)), (m6, .inl (km6, 2, .inl kp)), (m7, .inl (km7, 1525, .inl vl)), (m8, .inl (km8, 24, .inl pl))]) [0, 1, 2, 3, 4, 5, 6, 7, 8] rfl
    have hD9 := hD.sub (ws' := [(m0, .inr (4, [.ref m1, .ref m2, .int (nI bk), .ref m3, .ref m4, .ref m5, .ref m6, .int sd, .ref m7, .ref m8, .int cl, .int pc, .int op])), (m1, .inl (km1, 93, .inl nw)), (m2, .inl (km2, 93, .inl ws)), (m3, .inl (km3, 3720, .inl bc)), (m4, .inl (km4, 186, .inl im)), (m5, .inl (km5, 2, .inl isd)), (m6, .inl (km6, 2, .inl kp)), (m7, .inl (km7, 1525, .inl vl)), (m8, .inl (km8, 24, .inl pl))]) [0, 1, 2, 3, 4, 5, 6, 7, 8] (by decide) rfl
    have hK9 := hK.sub (tys' := [(km1, .int), (km2, .int), (km3, .int), (km4, .int), (km5, .int), (km6, .boolean), (km7, .int), (km8, .int)]) [0, 1, 2, 3, 4, 5, 6, 7] rfl
    subst hAe
    exact W.iret (v := ((-1000000001))) hx hb hr (fun t ht hW => ⟨⟨_, _, rfl, rfl, bk, sd, cl, pc, op, nw, ws, bc, im, isd, vl, pl, (by first | assumption | omega), (by first | assumption | omega), (by first | assumption | omega), (by first | assumption | omega), (by first | assumption | omega), by rw [ht]; exact hP9, va_K.moved hW.alike hK9, hD9⟩, hS.F ht⟩) hS.2.2 dX4_room_16
  · obtain ⟨j_2, hj_2, rfl⟩ := b_1 wr_1 c_4
    refine lv_iload_n hx hb dX4_room_7 rfl (lv_at hl 2 rfl) ?_
    refine va_calli (va_runS (As := [.int u]) (rest := []) ⟨hx, hb, hml, hown, hts⟩ (c_X4_isHour l dC dI   u  ) (va_cwS 1 hts gX4_room_X4_isHour rfl rfl rfl (by decide +kernel) ⟨Nat.le_of_ble_eq_true rfl, Nat.le_of_ble_eq_true rfl⟩) ⟨fun a U g mk q => q, fun U hU hW => ⟨rfl, trivial⟩⟩ rfl rfl hl.1 rfl (lv_room (Nat.le_of_ble_eq_true rfl)) dX4_room_8 ⟨Nat.le_of_ble_eq_true rfl, Nat.le_of_ble_eq_true rfl⟩) hS (fun q _ h => h.elim) (fun q h => h.elim) (fun r_3 u9 t9 H1 locs ht hvm hw hB hz1 hk1 hS => ?_)
    refine W.widen (k := 0) (n := 0) (Nat.le_of_ble_eq_true rfl) (Nat.le_of_ble_eq_true rfl) ?_
    have hP := hP.kept (H1 := H1) (fun k q hk => hk1 q.1 (hP k q hk).lt (fun h => h))
    clear hz1 hk1 hB ht hvm t9
    generalize H1 = H at hP hS ⊢
    have hP : va_P (dC, dI) vwCl [(m0, .inr (4, [.ref m1, .ref m2, .int (nI bk), .ref m3, .ref m4, .ref m5, .ref m6, .int sd, .ref m7, .ref m8, .int cl, .int pc, .int op])), (m1, .inl (km1, 93, .inl nw)), (m2, .inl (km2, 93, .inl ws)), (m3, .inl (km3, 3720, .inl bc)), (m4, .inl (km4, 186, .inl im)), (m5, .inl (km5, 2, .inl isd)), (m6, .inl (km6, 2, .inl kp)), (m7, .inl (km7, 1525, .inl vl)), (m8, .inl (km8, 24, .inl pl))] H := hP
    have wr_3 := hw
    clear hw
    refine lv_if_ne (tgt := 17) hx hb dX4_room_11 (by decide) (fun c_11 => ?_) (fun c_11 => ?_)
    · obtain ⟨j_4, hj_4, rfl⟩ := b_1 wr_3 c_11
      refine lv_iload_n hx hb dX4_room_17 rfl (lv_at hl 1 rfl) ?_
      refine lv_iload_n hx hb dX4_room_18 rfl (lv_at hl 2 rfl) ?_
      refine lv_icmp_gt (tgt := 32) hx hb dX4_room_19 (by decide) (fun c_19 => ?_) (fun c_19 => ?_)
      · have c_19 := (nI_ltI (by omega : j_4 < 2 ^ 31) (by omega : j_2 < 2 ^ 31)).mp c_19
        refine lv_ldc (own := RX4) (v := (-1000000002)) hx hb hown (hts (.constant RX4 110 (-1000000002)) (List.mem_of_getElem? (i := 2) rfl)) dX4_room_32 ?_
        subst hQe
        have hP9 := hP.sub (ws' := [(m0, .inr (4, [.ref m1, .ref m2, .int (nI bk), .ref m3, .ref m4, .ref m5, .ref m6, .int sd, .ref m7, .ref m8, .int cl, .int pc, .int op])), (m1, .inl (km1, 93, .inl nw)), (m2, .inl (km2, 93, .inl ws)), (m3, .inl (km3, 3720, .inl bc)), (m4, .inl (km4, 186, .inl im)), (m5, .inl (km5, 2, .inl isd)), (m6, .inl (km6, 2, .inl kp)), (m7, .inl (km7, 1525, .inl vl)), (m8, .inl (km8, 24, .inl pl))]) [0, 1, 2, 3, 4, 5, 6, 7, 8] rfl
        have hD9 := hD.sub (ws' := [(m0, .inr (4, [.ref m1, .ref m2, .int (nI bk), .ref m3, .ref m4, .ref m5, .ref m6, .int sd, .ref m7, .ref m8, .int cl, .int pc, .int op])), (m1, .inl (km1, 93, .inl nw)), (m2, .inl (km2, 93, .inl ws)), (m3, .inl (km3, 3720, .inl bc)), (m4, .inl (km4, 186, .inl im)), (m5, .inl (km5, 2, .inl isd)), (m6, .inl (km6, 2, .inl kp)), (m7, .inl (km7, 1525, .inl vl)), (m8, .inl (km8, 24, .inl pl))]) [0, 1, 2, 3, 4, 5, 6, 7, 8] (by decide) rfl
        have hK9 := hK.sub (tys' := [(km1, .int), (km2, .int), (km3, .int), (km4, .int), (km5, .int), (km6, .boolean), (km7, .int), (km8, .int)]) [0, 1, 2, 3, 4, 5, 6, 7] rfl
        subst hAe
        exact W.iret (v := ((-1000000002))) hx hb hr (fun t ht hW => ⟨⟨_, _, rfl, rfl, bk, sd, cl, pc, op, nw, ws, bc, im, isd, vl, pl, (by first | assumption | omega), (by first | assumption | omega), (by first | assumption | omega), (by first | assumption | omega), (by first | assumption | omega), by rw [ht]; exact hP9, va_K.moved hW.alike hK9, hD9⟩, hS.F ht⟩) hS.2.2 dX4_room_34
      · have c_19 := (not_congr (nI_ltI (by omega : j_4 < 2 ^ 31) (by omega : j_2 < 2 ^ 31))).mp c_19
        refine lv_iload_n hx hb dX4_room_22 rfl (lv_at hl 3 rfl) ?_
        refine lv_iconst (v := nI 0) hx hb dX4_room_23 (by decide) ?_
        refine lv_bipush (v := nI 60) hx hb dX4_room_24 (by decide) ?_
        refine va_calli (va_runS (As := [.int v, .int (nI 0), .int (nI 60)]) (rest := []) ⟨hx, hb, hml, hown, hts⟩ (c_X4_in l dC dI   v (nI 0) (nI 60)  ) (va_cwS 3 hts gX4_room_X4_in rfl rfl rfl (by decide +kernel) ⟨Nat.le_of_ble_eq_true rfl, Nat.le_of_ble_eq_true rfl⟩) ⟨fun a U g mk q => q, fun U hU hW => ⟨rfl, trivial⟩⟩ rfl rfl hl.1 rfl (lv_room (Nat.le_of_ble_eq_true rfl)) dX4_room_26 ⟨Nat.le_of_ble_eq_true rfl, Nat.le_of_ble_eq_true rfl⟩) hS (fun q _ h => h.elim) (fun q h => h.elim) (fun r_5 u9 t9 H1 locs ht hvm hw hB hz1 hk1 hS => ?_)
        refine W.widen (k := 0) (n := 0) (Nat.le_of_ble_eq_true rfl) (Nat.le_of_ble_eq_true rfl) ?_
        have hP := hP.kept (H1 := H1) (fun k q hk => hk1 q.1 (hP k q hk).lt (fun h => h))
        clear hz1 hk1 hB ht hvm t9
        generalize H1 = H at hP hS ⊢
        have hP : va_P (dC, dI) vwCl [(m0, .inr (4, [.ref m1, .ref m2, .int (nI bk), .ref m3, .ref m4, .ref m5, .ref m6, .int sd, .ref m7, .ref m8, .int cl, .int pc, .int op])), (m1, .inl (km1, 93, .inl nw)), (m2, .inl (km2, 93, .inl ws)), (m3, .inl (km3, 3720, .inl bc)), (m4, .inl (km4, 186, .inl im)), (m5, .inl (km5, 2, .inl isd)), (m6, .inl (km6, 2, .inl kp)), (m7, .inl (km7, 1525, .inl vl)), (m8, .inl (km8, 24, .inl pl))] H := hP
        have wr_5 := hw
        clear hw
        refine lv_if_ne (tgt := 35) hx hb dX4_room_29 (by decide) (fun c_29 => ?_) (fun c_29 => ?_)
        · obtain ⟨j_6, hj_6, rfl⟩ := rg_0 (by decide) (b_1 wr_5 c_29)
          refine lv_aload_n hx hb dX4_room_35 rfl (lv_at hl 0 rfl) ?_
          have hPc := hP.sub (ws' := [(m0, .inr (4, [.ref m1, .ref m2, .int (nI bk), .ref m3, .ref m4, .ref m5, .ref m6, .int sd, .ref m7, .ref m8, .int cl, .int pc, .int op])), (m1, .inl (km1, 93, .inl nw)), (m3, .inl (km3, 3720, .inl bc))]) [0, 1, 3] rfl
          have hKc := hK.sub (tys' := [(km1, .int), (km3, .int)]) [0, 2] rfl
          have hDc := hD.sub (ws' := [(m0, .inr (4, [.ref m1, .ref m2, .int (nI bk), .ref m3, .ref m4, .ref m5, .ref m6, .int sd, .ref m7, .ref m8, .int cl, .int pc, .int op])), (m1, .inl (km1, 93, .inl nw)), (m3, .inl (km3, 3720, .inl bc))]) [0, 1, 3] (by decide) rfl
          have hFc := va_free (wc := [(m0, .inr (4, [.ref m1, .ref m2, .int (nI bk), .ref m3, .ref m4, .ref m5, .ref m6, .int sd, .ref m7, .ref m8, .int cl, .int pc, .int op])), (m1, .inl (km1, 93, .inl nw)), (m3, .inl (km3, 3720, .inl bc))]) hD hS hA [0, 1, 3] rfl
          refine va_callv (va_runV (As := []) (rest := []) ⟨hx, hb, hml, hown, hts⟩ (c_X4_note l dC dI m0 m1 m3 m2 m4 m5 m6 m7 m8 km1 km3 H.size bk sd cl pc op nw bc  (by first | assumption | omega) (by first | assumption | omega) (by first | assumption | omega) ) (cwV 0 hts gX4_room_X4_note rfl rfl rfl (by decide +kernel) ⟨Nat.le_of_ble_eq_true rfl, Nat.le_of_ble_eq_true rfl⟩) ⟨fun a U g mk q => by obtain ⟨q0, q1, qP, qK, qD⟩ := q; exact ⟨q0, q1, qP, va_K.moved (u := U) (U := U.calling g mk a) (Vm.Alike.refl U.vm) qK, qD⟩, va_recv hKc hPc (ci := 4) (q0 := 0) rfl rfl, fun U hU hW => ⟨rfl, by rw [hU], by rw [hU]; exact hPc, va_K.moved hW.alike hKc, hDc.weaken (fun _ _ _ _ => trivial)⟩⟩ rfl rfl hl.1 rfl (lv_room (Nat.le_of_ble_eq_true rfl)) dX4_room_36 ⟨Nat.le_of_ble_eq_true rfl, Nat.le_of_ble_eq_true rfl⟩) hS (fun q _ h => hFc q h) hFc (fun u9 t9 H1 locs ht hvm hw hB hz1 hk1 hS => ?_)
          refine W.widen (k := 0) (n := 0) (Nat.le_of_ble_eq_true rfl) (Nat.le_of_ble_eq_true rfl) ?_
          obtain ⟨⟩ := u9
          obtain ⟨bk_8, bc_9, h_10, h_11, hP1, hK1, hD1⟩ := hB
          rw [ht] at hP1
          obtain ⟨hP, hD⟩ := va_join (wr := [(m2, .inl (km2, 93, .inl ws)), (m4, .inl (km4, 186, .inl im)), (m5, .inl (km5, 2, .inl isd)), (m6, .inl (km6, 2, .inl kp)), (m7, .inl (km7, 1525, .inl vl)), (m8, .inl (km8, 24, .inl pl))]) (w1 := [(m0, .inr (4, [.ref m1, .ref m2, .int (nI bk_8), .ref m3, .ref m4, .ref m5, .ref m6, .int sd, .ref m7, .ref m8, .int cl, .int pc, .int op])), (m1, .inl (km1, 93, .inl nw)), (m3, .inl (km3, 3720, .inl bc_9))]) hP hD [0, 1, 3] [2, 4, 5, 6, 7, 8] rfl rfl (by decide) (by decide) hk1 hFc hP1 hD1
          clear hPc hDc hKc hFc hz1 hk1 ht hvm hP1 hK1 hD1 hw t9
          generalize H1 = H at hP hS ⊢
          have hP := hP.sub (ws' := [(m0, .inr (4, [.ref m1, .ref m2, .int (nI bk_8), .ref m3, .ref m4, .ref m5, .ref m6, .int sd, .ref m7, .ref m8, .int cl, .int pc, .int op])), (m1, .inl (km1, 93, .inl nw)), (m2, .inl (km2, 93, .inl ws)), (m3, .inl (km3, 3720, .inl bc_9)), (m4, .inl (km4, 186, .inl im)), (m5, .inl (km5, 2, .inl isd)), (m6, .inl (km6, 2, .inl kp)), (m7, .inl (km7, 1525, .inl vl)), (m8, .inl (km8, 24, .inl pl))]) [6, 7, 0, 8, 1, 2, 3, 4, 5] rfl
          have hD := hD.sub (ws' := [(m0, .inr (4, [.ref m1, .ref m2, .int (nI bk_8), .ref m3, .ref m4, .ref m5, .ref m6, .int sd, .ref m7, .ref m8, .int cl, .int pc, .int op])), (m1, .inl (km1, 93, .inl nw)), (m2, .inl (km2, 93, .inl ws)), (m3, .inl (km3, 3720, .inl bc_9)), (m4, .inl (km4, 186, .inl im)), (m5, .inl (km5, 2, .inl isd)), (m6, .inl (km6, 2, .inl kp)), (m7, .inl (km7, 1525, .inl vl)), (m8, .inl (km8, 24, .inl pl))]) [6, 7, 0, 8, 1, 2, 3, 4, 5] (by decide) rfl
          refine lv_iload_n hx hb dX4_room_39 rfl (lv_at hl 1 rfl) ?_
          refine lv_istore (lv' := [(4, .int (nI j_2)), (0, .ref m0), (1, .int (nI j_2)), (2, .int (nI j_4)), (3, .int (nI j_6))]) hx hb dX4_room_40 hl (by decide) rfl (fun ls hl => ?_)
          have L42 : ∀ (n : Nat) (i : Nat) (nwv : Nat → Int32) (H : Heap) (locs : List Loc) (ls : Array Slot), i ≤ 24 → okN nwv → 24 - i < n → va_P (dC, dI) vwCl [(m0, .inr (4, [.ref m1, .ref m2, .int (nI bk_8), .ref m3, .ref m4, .ref m5, .ref m6, .int sd, .ref m7, .ref m8, .int cl, .int pc, .int op])), (m1, .inl (km1, 93, .inl nwv)), (m2, .inl (km2, 93, .inl ws)), (m3, .inl (km3, 3720, .inl bc_9)), (m4, .inl (km4, 186, .inl im)), (m5, .inl (km5, 2, .inl isd)), (m6, .inl (km6, 2, .inl kp)), (m7, .inl (km7, 1525, .inl vl)), (m8, .inl (km8, 24, .inl pl))] H → va_D A [(m0, .inr (4, [.ref m1, .ref m2, .int (nI bk_8), .ref m3, .ref m4, .ref m5, .ref m6, .int sd, .ref m7, .ref m8, .int cl, .int pc, .int op])), (m1, .inl (km1, 93, .inl nwv)), (m2, .inl (km2, 93, .inl ws)), (m3, .inl (km3, 3720, .inl bc_9)), (m4, .inl (km4, 186, .inl im)), (m5, .inl (km5, 2, .inl isd)), (m6, .inl (km6, 2, .inl kp)), (m7, .inl (km7, 1525, .inl vl)), (m8, .inl (km8, 24, .inl pl))] → va_S A s.heap H locs → lv_has ls 5 [(0, .ref m0), (2, .int (nI j_4)), (3, .int (nI j_6)), (4, .int (nI i))] → W p l e (headSpec wsX4_room { frames := 7, cells := 0, slots := 0, locals := 162 }).room s m args below meth c H locs 0 0 Q (F0 m 42 ls []) := by
            intro n
            induction n with
            | zero => intro i nwv H locs ls hL42_0 hL42_1 hn; exact absurd hn (Nat.not_lt_zero _)
            | succ n ih42 =>
              intro i nwv H locs ls hL42_0 hL42_1 hn hP hD hS hl
              refine lv_iload hx hb dX4_room_42 (lv_at hl 3 rfl) ?_
              refine lv_iload_n hx hb dX4_room_44 rfl (lv_at hl 1 rfl) ?_
              refine lv_icmp_gt (tgt := 65) hx hb dX4_room_45 (by decide) (fun c_45 => ?_) (fun c_45 => ?_)
              · have c_45 := (nI_ltI (by omega : j_4 < 2 ^ 31) (by omega : i < 2 ^ 31)).mp c_45
                refine lv_aload_n hx hb dX4_room_65 rfl (lv_at hl 0 rfl) ?_
                have hPc := hP.sub (ws' := [(m0, .inr (4, [.ref m1, .ref m2, .int (nI bk_8), .ref m3, .ref m4, .ref m5, .ref m6, .int sd, .ref m7, .ref m8, .int cl, .int pc, .int op])), (m1, .inl (km1, 93, .inl nwv)), (m7, .inl (km7, 1525, .inl vl))]) [0, 1, 7] rfl
                have hKc := hK.sub (tys' := [(km1, .int), (km7, .int)]) [0, 6] rfl
                have hDc := hD.sub (ws' := [(m0, .inr (4, [.ref m1, .ref m2, .int (nI bk_8), .ref m3, .ref m4, .ref m5, .ref m6, .int sd, .ref m7, .ref m8, .int cl, .int pc, .int op])), (m1, .inl (km1, 93, .inl nwv)), (m7, .inl (km7, 1525, .inl vl))]) [0, 1, 7] (by decide) rfl
                have hFc := va_free (wc := [(m0, .inr (4, [.ref m1, .ref m2, .int (nI bk_8), .ref m3, .ref m4, .ref m5, .ref m6, .int sd, .ref m7, .ref m8, .int cl, .int pc, .int op])), (m1, .inl (km1, 93, .inl nwv)), (m7, .inl (km7, 1525, .inl vl))]) hD hS hA [0, 1, 7] rfl
                refine va_calli (va_runV (As := []) (rest := []) ⟨hx, hb, hml, hown, hts⟩ (c_X4_bestOf l dC dI m0 m1 m7 m2 m3 m4 m5 m6 m8 km1 km7 H.size bk_8 sd cl pc op nwv vl  (by first | assumption | omega) (by first | assumption | omega) ) (cwV 0 hts gX4_room_X4_bestOf rfl rfl rfl (by decide +kernel) ⟨Nat.le_of_ble_eq_true rfl, Nat.le_of_ble_eq_true rfl⟩) ⟨fun a U g mk q => by obtain ⟨q0, q1, qP, qK, qD⟩ := q; exact ⟨q0, q1, qP, va_K.moved (u := U) (U := U.calling g mk a) (Vm.Alike.refl U.vm) qK, qD⟩, va_recv hKc hPc (ci := 4) (q0 := 0) rfl rfl, fun U hU hW => ⟨rfl, by rw [hU], by rw [hU]; exact hPc, va_K.moved hW.alike hKc, hDc.weaken (fun _ _ _ _ => trivial)⟩⟩ rfl rfl hl.1 rfl (lv_room (Nat.le_of_ble_eq_true rfl)) dX4_room_66 ⟨Nat.le_of_ble_eq_true rfl, Nat.le_of_ble_eq_true rfl⟩) hS (fun q _ h => hFc q h) hFc (fun r_12 u9 t9 H1 locs ht hvm hw hB hz1 hk1 hS => ?_)
                refine W.widen (k := 0) (n := 0) (Nat.le_of_ble_eq_true rfl) (Nat.le_of_ble_eq_true rfl) ?_
                obtain ⟨vl_13, h_14, h_15, hP1, hK1, hD1⟩ := hB
                rw [ht] at hP1
                have hw := hw.symm
                subst hw
                obtain ⟨hP, hD⟩ := va_join (wr := [(m2, .inl (km2, 93, .inl ws)), (m3, .inl (km3, 3720, .inl bc_9)), (m4, .inl (km4, 186, .inl im)), (m5, .inl (km5, 2, .inl isd)), (m6, .inl (km6, 2, .inl kp)), (m8, .inl (km8, 24, .inl pl))]) (w1 := [(m0, .inr (4, [.ref m1, .ref m2, .int (nI bk_8), .ref m3, .ref m4, .ref m5, .ref m6, .int sd, .ref m7, .ref m8, .int cl, .int pc, .int op])), (m1, .inl (km1, 93, .inl nwv)), (m7, .inl (km7, 1525, .inl vl_13))]) hP hD [0, 1, 7] [2, 3, 4, 5, 6, 8] rfl rfl (by decide) (by decide) hk1 hFc hP1 hD1
                clear hPc hDc hKc hFc hz1 hk1 ht hvm hP1 hK1 hD1 t9
                generalize H1 = H at hP hS ⊢
                have hP := hP.sub (ws' := [(m0, .inr (4, [.ref m1, .ref m2, .int (nI bk_8), .ref m3, .ref m4, .ref m5, .ref m6, .int sd, .ref m7, .ref m8, .int cl, .int pc, .int op])), (m1, .inl (km1, 93, .inl nwv)), (m2, .inl (km2, 93, .inl ws)), (m3, .inl (km3, 3720, .inl bc_9)), (m4, .inl (km4, 186, .inl im)), (m5, .inl (km5, 2, .inl isd)), (m6, .inl (km6, 2, .inl kp)), (m7, .inl (km7, 1525, .inl vl_13)), (m8, .inl (km8, 24, .inl pl))]) [6, 7, 0, 1, 2, 3, 4, 8, 5] rfl
                have hD := hD.sub (ws' := [(m0, .inr (4, [.ref m1, .ref m2, .int (nI bk_8), .ref m3, .ref m4, .ref m5, .ref m6, .int sd, .ref m7, .ref m8, .int cl, .int pc, .int op])), (m1, .inl (km1, 93, .inl nwv)), (m2, .inl (km2, 93, .inl ws)), (m3, .inl (km3, 3720, .inl bc_9)), (m4, .inl (km4, 186, .inl im)), (m5, .inl (km5, 2, .inl isd)), (m6, .inl (km6, 2, .inl kp)), (m7, .inl (km7, 1525, .inl vl_13)), (m8, .inl (km8, 24, .inl pl))]) [6, 7, 0, 1, 2, 3, 4, 8, 5] (by decide) rfl
                refine va_calli (va_runS (As := [.int r_12]) (rest := []) ⟨hx, hb, hml, hown, hts⟩ (c_X4_shown l dC dI   r_12  ) (va_cwS 1 hts gX4_room_X4_shown rfl rfl rfl (by decide +kernel) ⟨Nat.le_of_ble_eq_true rfl, Nat.le_of_ble_eq_true rfl⟩) ⟨fun a U g mk q => q, fun U hU hW => ⟨rfl, trivial⟩⟩ rfl rfl hl.1 rfl (lv_room (Nat.le_of_ble_eq_true rfl)) dX4_room_69 ⟨Nat.le_of_ble_eq_true rfl, Nat.le_of_ble_eq_true rfl⟩) hS (fun q _ h => h.elim) (fun q h => h.elim) (fun r_17 u9 t9 H1 locs ht hvm hw hB hz1 hk1 hS => ?_)
                refine W.widen (k := 0) (n := 0) (Nat.le_of_ble_eq_true rfl) (Nat.le_of_ble_eq_true rfl) ?_
                have hP := hP.kept (H1 := H1) (fun k q hk => hk1 q.1 (hP k q hk).lt (fun h => h))
                clear hz1 hk1 hB ht hvm t9
                generalize H1 = H at hP hS ⊢
                have hP : va_P (dC, dI) vwCl [(m0, .inr (4, [.ref m1, .ref m2, .int (nI bk_8), .ref m3, .ref m4, .ref m5, .ref m6, .int sd, .ref m7, .ref m8, .int cl, .int pc, .int op])), (m1, .inl (km1, 93, .inl nwv)), (m2, .inl (km2, 93, .inl ws)), (m3, .inl (km3, 3720, .inl bc_9)), (m4, .inl (km4, 186, .inl im)), (m5, .inl (km5, 2, .inl isd)), (m6, .inl (km6, 2, .inl kp)), (m7, .inl (km7, 1525, .inl vl_13)), (m8, .inl (km8, 24, .inl pl))] H := hP
                clear hw
                subst hQe
                have hP9 := hP.sub (ws' := [(m0, .inr (4, [.ref m1, .ref m2, .int (nI bk_8), .ref m3, .ref m4, .ref m5, .ref m6, .int sd, .ref m7, .ref m8, .int cl, .int pc, .int op])), (m1, .inl (km1, 93, .inl nwv)), (m2, .inl (km2, 93, .inl ws)), (m3, .inl (km3, 3720, .inl bc_9)), (m4, .inl (km4, 186, .inl im)), (m5, .inl (km5, 2, .inl isd)), (m6, .inl (km6, 2, .inl kp)), (m7, .inl (km7, 1525, .inl vl_13)), (m8, .inl (km8, 24, .inl pl))]) [0, 1, 2, 3, 4, 5, 6, 7, 8] rfl
                have hD9 := hD.sub (ws' := [(m0, .inr (4, [.ref m1, .ref m2, .int (nI bk_8), .ref m3, .ref m4, .ref m5, .ref m6, .int sd, .ref m7, .ref m8, .int cl, .int pc, .int op])), (m1, .inl (km1, 93, .inl nwv)), (m2, .inl (km2, 93, .inl ws)), (m3, .inl (km3, 3720, .inl bc_9)), (m4, .inl (km4, 186, .inl im)), (m5, .inl (km5, 2, .inl isd)), (m6, .inl (km6, 2, .inl kp)), (m7, .inl (km7, 1525, .inl vl_13)), (m8, .inl (km8, 24, .inl pl))]) [0, 1, 2, 3, 4, 5, 6, 7, 8] (by decide) rfl
                have hK9 := hK.sub (tys' := [(km1, .int), (km2, .int), (km3, .int), (km4, .int), (km5, .int), (km6, .boolean), (km7, .int), (km8, .int)]) [0, 1, 2, 3, 4, 5, 6, 7] rfl
                subst hAe
                exact W.iret (v := r_17) hx hb hr (fun t ht hW => ⟨⟨_, _, rfl, rfl, bk_8, sd, cl, pc, op, nwv, ws, bc_9, im, isd, vl_13, pl, (by first | assumption | omega), (by first | assumption | omega), (by first | assumption | omega), (by first | assumption | omega), (by first | assumption | omega), by rw [ht]; exact hP9, va_K.moved hW.alike hK9, hD9⟩, hS.F ht⟩) hS.2.2 dX4_room_72
              · have c_45 := (not_congr (nI_ltI (by omega : j_4 < 2 ^ 31) (by omega : i < 2 ^ 31))).mp c_45
                refine lv_aload_n hx hb dX4_room_48 rfl (lv_at hl 0 rfl) ?_
                refine va_get (D := (dC, dI)) (ci := 4) (v := .ref m1) (C := RX4) (T := TX4) (N := 13) hx hb hts inX4 hown hK hP 0 rfl rfl 0 (by decide) (hts (.fieldLink RX4 7 "StoreSlopesModel" "now" "[I") (List.mem_of_getElem? (i := 3) rfl)) (fun _ h9 => h9) rfl dX4_room_49 ?_
                refine lv_bipush (v := nI 68) hx hb dX4_room_52 (by decide) ?_
                refine lv_iload hx hb dX4_room_54 (lv_at hl 3 rfl) ?_
                refine lv_iadd hx hb dX4_room_56 ?_
                refine tp_as (nI_add 68 i) ?_
                refine lv_iload_n hx hb dX4_room_57 rfl (lv_at hl 2 rfl) ?_
                refine va_iast hx hb hK hP hD hS 1 0 rfl rfl (vp_in_nI (show 68 + i < 93 by omega) (by omega)) dX4_room_58 (fun H locs hP hD hS => ?_)
                have hP : va_P (dC, dI) vwCl [(m0, .inr (4, [.ref m1, .ref m2, .int (nI bk_8), .ref m3, .ref m4, .ref m5, .ref m6, .int sd, .ref m7, .ref m8, .int cl, .int pc, .int op])), (m1, .inl (km1, 93, .inl (upd nwv (nI (68 + i)).toNatClampNeg (nI j_6)))), (m2, .inl (km2, 93, .inl ws)), (m3, .inl (km3, 3720, .inl bc_9)), (m4, .inl (km4, 186, .inl im)), (m5, .inl (km5, 2, .inl isd)), (m6, .inl (km6, 2, .inl kp)), (m7, .inl (km7, 1525, .inl vl)), (m8, .inl (km8, 24, .inl pl))] H := hP
                have hD : va_D A [(m0, .inr (4, [.ref m1, .ref m2, .int (nI bk_8), .ref m3, .ref m4, .ref m5, .ref m6, .int sd, .ref m7, .ref m8, .int cl, .int pc, .int op])), (m1, .inl (km1, 93, .inl (upd nwv (nI (68 + i)).toNatClampNeg (nI j_6)))), (m2, .inl (km2, 93, .inl ws)), (m3, .inl (km3, 3720, .inl bc_9)), (m4, .inl (km4, 186, .inl im)), (m5, .inl (km5, 2, .inl isd)), (m6, .inl (km6, 2, .inl kp)), (m7, .inl (km7, 1525, .inl vl)), (m8, .inl (km8, 24, .inl pl))] := hD
                generalize ef_18 : upd nwv (nI (68 + i)).toNatClampNeg (nI j_6) = f_18 at hP hD
                have bf_18 : okN f_18 := okN_upd (by assumption) ef_18 (by omega) (by refine ⟨fun q => ?_, fun q => ?_, fun q => ?_, fun q => ?_, fun q => ?_, fun q q2 => ?_⟩ <;> first | (exfalso; omega) | exact ⟨_, by omega, rfl⟩)
                clear ef_18
                refine lv_iinc (v := nI (i + 1)) (lv' := [(4, .int (nI (i + 1))), (0, .ref m0), (2, .int (nI j_4)), (3, .int (nI j_6))]) hx hb dX4_room_59 hl (k := 3) rfl (inc_n i 1) (by decide) rfl (fun ls hl => ?_)
                refine lv_goto (tgt := 42) hx hb dX4_room_62 (by decide) ?_
                exact ih42 (i + 1) f_18 _ _ _ (by first | assumption | omega) (by first | assumption | omega) (by omega) hP hD hS (lv_sub hl [1, 2, 3, 0] rfl)
          exact L42 (24 - j_2 + 1) j_2 nw _ _ _ (by first | assumption | omega) (by first | assumption | omega) (Nat.lt_succ_self _) hP hD hS (lv_sub hl [1, 3, 4, 0] rfl)
        · have nc_29 := b_0 wr_5 c_29
          refine lv_ldc (own := RX4) (v := (-1000000002)) hx hb hown (hts (.constant RX4 110 (-1000000002)) (List.mem_of_getElem? (i := 2) rfl)) dX4_room_32 ?_
          subst hQe
          have hP9 := hP.sub (ws' := [(m0, .inr (4, [.ref m1, .ref m2, .int (nI bk), .ref m3, .ref m4, .ref m5, .ref m6, .int sd, .ref m7, .ref m8, .int cl, .int pc, .int op])), (m1, .inl (km1, 93, .inl nw)), (m2, .inl (km2, 93, .inl ws)), (m3, .inl (km3, 3720, .inl bc)), (m4, .inl (km4, 186, .inl im)), (m5, .inl (km5, 2, .inl isd)), (m6, .inl (km6, 2, .inl kp)), (m7, .inl (km7, 1525, .inl vl)), (m8, .inl (km8, 24, .inl pl))]) [0, 1, 2, 3, 4, 5, 6, 7, 8] rfl
          have hD9 := hD.sub (ws' := [(m0, .inr (4, [.ref m1, .ref m2, .int (nI bk), .ref m3, .ref m4, .ref m5, .ref m6, .int sd, .ref m7, .ref m8, .int cl, .int pc, .int op])), (m1, .inl (km1, 93, .inl nw)), (m2, .inl (km2, 93, .inl ws)), (m3, .inl (km3, 3720, .inl bc)), (m4, .inl (km4, 186, .inl im)), (m5, .inl (km5, 2, .inl isd)), (m6, .inl (km6, 2, .inl kp)), (m7, .inl (km7, 1525, .inl vl)), (m8, .inl (km8, 24, .inl pl))]) [0, 1, 2, 3, 4, 5, 6, 7, 8] (by decide) rfl
          have hK9 := hK.sub (tys' := [(km1, .int), (km2, .int), (km3, .int), (km4, .int), (km5, .int), (km6, .boolean), (km7, .int), (km8, .int)]) [0, 1, 2, 3, 4, 5, 6, 7] rfl
          subst hAe
          exact W.iret (v := ((-1000000002))) hx hb hr (fun t ht hW => ⟨⟨_, _, rfl, rfl, bk, sd, cl, pc, op, nw, ws, bc, im, isd, vl, pl, (by first | assumption | omega), (by first | assumption | omega), (by first | assumption | omega), (by first | assumption | omega), (by first | assumption | omega), by rw [ht]; exact hP9, va_K.moved hW.alike hK9, hD9⟩, hS.F ht⟩) hS.2.2 dX4_room_34
    · have nc_11 := b_0 wr_3 c_11
      refine lv_ldc (own := RX4) (v := (-1000000001)) hx hb hown (hts (.constant RX4 109 (-1000000001)) (List.mem_of_getElem? (i := 1) rfl)) dX4_room_14 ?_
      subst hQe
      have hP9 := hP.sub (ws' := [(m0, .inr (4, [.ref m1, .ref m2, .int (nI bk), .ref m3, .ref m4, .ref m5, .ref m6, .int sd, .ref m7, .ref m8, .int cl, .int pc, .int op])), (m1, .inl (km1, 93, .inl nw)), (m2, .inl (km2, 93, .inl ws)), (m3, .inl (km3, 3720, .inl bc)), (m4, .inl (km4, 186, .inl im)), (m5, .inl (km5, 2, .inl isd)), (m6, .inl (km6, 2, .inl kp)), (m7, .inl (km7, 1525, .inl vl)), (m8, .inl (km8, 24, .inl pl))]) [0, 1, 2, 3, 4, 5, 6, 7, 8] rfl
      have hD9 := hD.sub (ws' := [(m0, .inr (4, [.ref m1, .ref m2, .int (nI bk), .ref m3, .ref m4, .ref m5, .ref m6, .int sd, .ref m7, .ref m8, .int cl, .int pc, .int op])), (m1, .inl (km1, 93, .inl nw)), (m2, .inl (km2, 93, .inl ws)), (m3, .inl (km3, 3720, .inl bc)), (m4, .inl (km4, 186, .inl im)), (m5, .inl (km5, 2, .inl isd)), (m6, .inl (km6, 2, .inl kp)), (m7, .inl (km7, 1525, .inl vl)), (m8, .inl (km8, 24, .inl pl))]) [0, 1, 2, 3, 4, 5, 6, 7, 8] (by decide) rfl
      have hK9 := hK.sub (tys' := [(km1, .int), (km2, .int), (km3, .int), (km4, .int), (km5, .int), (km6, .boolean), (km7, .int), (km8, .int)]) [0, 1, 2, 3, 4, 5, 6, 7] rfl
      subst hAe
      exact W.iret (v := ((-1000000001))) hx hb hr (fun t ht hW => ⟨⟨_, _, rfl, rfl, bk, sd, cl, pc, op, nw, ws, bc, im, isd, vl, pl, (by first | assumption | omega), (by first | assumption | omega), (by first | assumption | omega), (by first | assumption | omega), (by first | assumption | omega), by rw [ht]; exact hP9, va_K.moved hW.alike hK9, hD9⟩, hS.F ht⟩) hS.2.2 dX4_room_16
set_option maxHeartbeats 4000000 in
set_option maxRecDepth 100000 in
theorem c_X4_begin (l : Launch) (dC : Nat → ClassId) (dI : Nat → Nat → Nat) (m0 m1 m2 m3 m4 m5 m6 m7 m8 : Nat) (km1 km2 km3 km4 km5 km6 km7 km8 : ClassId) (sz : Nat) (bk : Nat) (sd : Int32) (cl : Int32) (pc : Int32) (op : Int32) (nw : Nat → Int32) (ws : Nat → Int32) (bc : Nat → Int32) (im : Nat → Int32) (isd : Nat → Int32) (kp : Nat → Int32) (vl : Nat → Int32) (pl : Nat → Int32) (a : Int32) (i0 : bk ≤ 40) (i1 : okN nw) (i2 : okB 40 bc) (i3 : okB 2 im) (i4 : bdA 60 24 pl) : Met l yX4_begin wsX4_begin ({ frames := 8, cells := 0, slots := 0, locals := 184 }) (va_Pc [.ref m0, .int a] (fun U => U.heap.size = sz ∧ va_P (dC, dI) vwCl [(m0, .inr (4, [.ref m1, .ref m2, .int (nI bk), .ref m3, .ref m4, .ref m5, .ref m6, .int sd, .ref m7, .ref m8, .int cl, .int pc, .int op])), (m1, .inl (km1, 93, .inl nw)), (m2, .inl (km2, 93, .inl ws)), (m3, .inl (km3, 3720, .inl bc)), (m4, .inl (km4, 186, .inl im)), (m5, .inl (km5, 2, .inl isd)), (m6, .inl (km6, 2, .inl kp)), (m7, .inl (km7, 1525, .inl vl)), (m8, .inl (km8, 24, .inl pl))] U.heap ∧ va_K (dC, dI) vwCl [(km1, .int), (km2, .int), (km3, .int), (km4, .int), (km5, .int), (km6, .boolean), (km7, .int), (km8, .int)] U ∧ va_D (fun _ => True) [(m0, .inr (4, [.ref m1, .ref m2, .int (nI bk), .ref m3, .ref m4, .ref m5, .ref m6, .int sd, .ref m7, .ref m8, .int cl, .int pc, .int op])), (m1, .inl (km1, 93, .inl nw)), (m2, .inl (km2, 93, .inl ws)), (m3, .inl (km3, 3720, .inl bc)), (m4, .inl (km4, 186, .inl im)), (m5, .inl (km5, 2, .inl isd)), (m6, .inl (km6, 2, .inl kp)), (m7, .inl (km7, 1525, .inl vl)), (m8, .inl (km8, 24, .inl pl))])) (va_Qi (fun (r u : Int32) => u = r) (fun r t => ∃ (bk' : Nat) (sd' : Int32) (cl' : Int32) (pc' : Int32) (op' : Int32) (nw' : Nat → Int32) (ws' : Nat → Int32) (bc' : Nat → Int32) (im' : Nat → Int32) (isd' : Nat → Int32) (vl' : Nat → Int32) (pl' : Nat → Int32), bk' ≤ 40 ∧ okN nw' ∧ okB 40 bc' ∧ okB 2 im' ∧ bdA 60 24 pl' ∧ va_P (dC, dI) vwCl [(m0, .inr (4, [.ref m1, .ref m2, .int (nI bk'), .ref m3, .ref m4, .ref m5, .ref m6, .int sd', .ref m7, .ref m8, .int cl', .int pc', .int op'])), (m1, .inl (km1, 93, .inl nw')), (m2, .inl (km2, 93, .inl ws')), (m3, .inl (km3, 3720, .inl bc')), (m4, .inl (km4, 186, .inl im')), (m5, .inl (km5, 2, .inl isd')), (m6, .inl (km6, 2, .inl kp)), (m7, .inl (km7, 1525, .inl vl')), (m8, .inl (km8, 24, .inl pl'))] t.heap ∧ va_K (dC, dI) vwCl [(km1, .int), (km2, .int), (km3, .int), (km4, .int), (km5, .int), (km6, .boolean), (km7, .int), (km8, .int)] t ∧ va_D (va_A [(m0, .inr (4, [.ref m1, .ref m2, .int (nI bk), .ref m3, .ref m4, .ref m5, .ref m6, .int sd, .ref m7, .ref m8, .int cl, .int pc, .int op])), (m1, .inl (km1, 93, .inl nw)), (m2, .inl (km2, 93, .inl ws)), (m3, .inl (km3, 3720, .inl bc)), (m4, .inl (km4, 186, .inl im)), (m5, .inl (km5, 2, .inl isd)), (m6, .inl (km6, 2, .inl kp)), (m7, .inl (km7, 1525, .inl vl)), (m8, .inl (km8, 24, .inl pl))] sz) [(m0, .inr (4, [.ref m1, .ref m2, .int (nI bk'), .ref m3, .ref m4, .ref m5, .ref m6, .int sd', .ref m7, .ref m8, .int cl', .int pc', .int op'])), (m1, .inl (km1, 93, .inl nw')), (m2, .inl (km2, 93, .inl ws')), (m3, .inl (km3, 3720, .inl bc')), (m4, .inl (km4, 186, .inl im')), (m5, .inl (km5, 2, .inl isd')), (m6, .inl (km6, 2, .inl kp)), (m7, .inl (km7, 1525, .inl vl')), (m8, .inl (km8, 24, .inl pl'))]) (va_A [(m0, .inr (4, [.ref m1, .ref m2, .int (nI bk), .ref m3, .ref m4, .ref m5, .ref m6, .int sd, .ref m7, .ref m8, .int cl, .int pc, .int op])), (m1, .inl (km1, 93, .inl nw)), (m2, .inl (km2, 93, .inl ws)), (m3, .inl (km3, 3720, .inl bc)), (m4, .inl (km4, 186, .inl im)), (m5, .inl (km5, 2, .inl isd)), (m6, .inl (km6, 2, .inl kp)), (m7, .inl (km7, 1525, .inl vl)), (m8, .inl (km8, 24, .inl pl))] sz)) 0 0 (va_A [(m0, .inr (4, [.ref m1, .ref m2, .int (nI bk), .ref m3, .ref m4, .ref m5, .ref m6, .int sd, .ref m7, .ref m8, .int cl, .int pc, .int op])), (m1, .inl (km1, 93, .inl nw)), (m2, .inl (km2, 93, .inl ws)), (m3, .inl (km3, 3720, .inl bc)), (m4, .inl (km4, 186, .inl im)), (m5, .inl (km5, 2, .inl isd)), (m6, .inl (km6, 2, .inl kp)), (m7, .inl (km7, 1525, .inl vl)), (m8, .inl (km8, 24, .inl pl))] sz) := by
  refine Met.ofW (cc := cX4_begin) (maxL := 2) (ret := (some .int)) (by decide) rfl ?_
  intro p e s m args below meth c s₁ B hml hv
  obtain ⟨rfl, hsz, hP, hK, hD0⟩ := hv
  have hx := B.exec
  have hb := B.bytes
  have hr := B.returns
  have hts := atoms_spec (ws := wsX4_begin) B.pre
  have hown : s.vm.findClass RX4 = some m.cls := findClass_of_methodNamed B.named
  have hlocks := B.notSynchronized
  have inX4 : ∀ w ∈ wsX40, w ∈ wsX4_begin := fun _ h => List.mem_cons_of_mem _ (List.mem_append_right _ h)
  subst hsz
  have hD := hD0.self (sz := s.heap.size)
  generalize hAe : va_A [(m0, .inr (4, [.ref m1, .ref m2, .int (nI bk), .ref m3, .ref m4, .ref m5, .ref m6, .int sd, .ref m7, .ref m8, .int cl, .int pc, .int op])), (m1, .inl (km1, 93, .inl nw)), (m2, .inl (km2, 93, .inl ws)), (m3, .inl (km3, 3720, .inl bc)), (m4, .inl (km4, 186, .inl im)), (m5, .inl (km5, 2, .inl isd)), (m6, .inl (km6, 2, .inl kp)), (m7, .inl (km7, 1525, .inl vl)), (m8, .inl (km8, 24, .inl pl))] s.heap.size = A at hD ⊢
  have hA : ∀ q : Nat, s.heap.size ≤ q → A q := fun q h => by rw [← hAe]; exact Or.inr h
  have hS : va_S A s.heap s.heap [] := va_S.rf
  have hl := lv_entry ([.ref m0, .int a]) (n := 2) (Nat.le_of_ble_eq_true rfl)
  rw [lg_entry_eq]
  generalize (lg_sl ([.ref m0, .int a]) ++ List.replicate (2 - (lg_sl ([.ref m0, .int a])).length) Slot.unset).toArray = ls at hl ⊢
  generalize hQe : MQ below _ _ s 0 0 _ = Q
  generalize ([.ref m0, .int a] : List Value).toArray = args at hts hQe ⊢
  have hl : lv_has ls 2 [(0, .ref m0), (1, .int a)] := hl
  refine lv_iload_n hx hb dX4_begin_0 rfl (lv_at hl 1 rfl) ?_
  refine lv_iconst (v := nI 0) hx hb dX4_begin_1 (by decide) ?_
  refine lv_bipush (v := nI 60) hx hb dX4_begin_2 (by decide) ?_
  refine va_calli (va_runS (As := [.int a, .int (nI 0), .int (nI 60)]) (rest := []) ⟨hx, hb, hml, hown, hts⟩ (c_X4_in l dC dI   a (nI 0) (nI 60)  ) (va_cwS 3 hts gX4_begin_X4_in rfl rfl rfl (by decide +kernel) ⟨Nat.le_of_ble_eq_true rfl, Nat.le_of_ble_eq_true rfl⟩) ⟨fun a U g mk q => q, fun U hU hW => ⟨rfl, trivial⟩⟩ rfl rfl hl.1 rfl (lv_room (Nat.le_of_ble_eq_true rfl)) dX4_begin_4 ⟨Nat.le_of_ble_eq_true rfl, Nat.le_of_ble_eq_true rfl⟩) hS (fun q _ h => h.elim) (fun q h => h.elim) (fun r_1 u9 t9 H1 locs ht hvm hw hB hz1 hk1 hS => ?_)
  refine W.widen (k := 0) (n := 0) (Nat.le_of_ble_eq_true rfl) (Nat.le_of_ble_eq_true rfl) ?_
  have hP := hP.kept (H1 := H1) (fun k q hk => hk1 q.1 (hP k q hk).lt (fun h => h))
  clear hz1 hk1 hB ht hvm t9
  generalize H1 = H at hP hS ⊢
  have hP : va_P (dC, dI) vwCl [(m0, .inr (4, [.ref m1, .ref m2, .int (nI bk), .ref m3, .ref m4, .ref m5, .ref m6, .int sd, .ref m7, .ref m8, .int cl, .int pc, .int op])), (m1, .inl (km1, 93, .inl nw)), (m2, .inl (km2, 93, .inl ws)), (m3, .inl (km3, 3720, .inl bc)), (m4, .inl (km4, 186, .inl im)), (m5, .inl (km5, 2, .inl isd)), (m6, .inl (km6, 2, .inl kp)), (m7, .inl (km7, 1525, .inl vl)), (m8, .inl (km8, 24, .inl pl))] H := hP
  have wr_1 := hw
  clear hw
  refine lv_if_eq (tgt := 19) hx hb dX4_begin_7 (by decide) (fun c_7 => ?_) (fun c_7 => ?_)
  · have nc_7 := b_0 wr_1 c_7
    refine lv_ldc (own := RX4) (v := (-1000000002)) hx hb hown (hts (.constant RX4 110 (-1000000002)) (List.mem_of_getElem? (i := 1) rfl)) dX4_begin_19 ?_
    subst hQe
    have hP9 := hP.sub (ws' := [(m0, .inr (4, [.ref m1, .ref m2, .int (nI bk), .ref m3, .ref m4, .ref m5, .ref m6, .int sd, .ref m7, .ref m8, .int cl, .int pc, .int op])), (m1, .inl (km1, 93, .inl nw)), (m2, .inl (km2, 93, .inl ws)), (m3, .inl (km3, 3720, .inl bc)), (m4, .inl (km4, 186, .inl im)), (m5, .inl (km5, 2, .inl isd)), (m6, .inl (km6, 2, .inl kp)), (m7, .inl (km7, 1525, .inl vl)), (m8, .inl (km8, 24, .inl pl))]) [0, 1, 2, 3, 4, 5, 6, 7, 8] rfl
    have hD9 := hD.sub (ws' := [(m0, .inr (4, [.ref m1, .ref m2, .int (nI bk), .ref m3, .ref m4, .ref m5, .ref m6, .int sd, .ref m7, .ref m8, .int cl, .int pc, .int op])), (m1, .inl (km1, 93, .inl nw)), (m2, .inl (km2, 93, .inl ws)), (m3, .inl (km3, 3720, .inl bc)), (m4, .inl (km4, 186, .inl im)), (m5, .inl (km5, 2, .inl isd)), (m6, .inl (km6, 2, .inl kp)), (m7, .inl (km7, 1525, .inl vl)), (m8, .inl (km8, 24, .inl pl))]) [0, 1, 2, 3, 4, 5, 6, 7, 8] (by decide) rfl
    have hK9 := hK.sub (tys' := [(km1, .int), (km2, .int), (km3, .int), (km4, .int), (km5, .int), (km6, .boolean), (km7, .int), (km8, .int)]) [0, 1, 2, 3, 4, 5, 6, 7] rfl
    subst hAe
    exact W.iret (v := ((-1000000002))) hx hb hr (fun t ht hW => ⟨⟨_, _, rfl, rfl, bk, sd, cl, pc, op, nw, ws, bc, im, isd, vl, pl, (by first | assumption | omega), (by first | assumption | omega), (by first | assumption | omega), (by first | assumption | omega), (by first | assumption | omega), by rw [ht]; exact hP9, va_K.moved hW.alike hK9, hD9⟩, hS.F ht⟩) hS.2.2 dX4_begin_21
  · obtain ⟨j_2, hj_2, rfl⟩ := rg_0 (by decide) (b_1 wr_1 c_7)
    refine lv_aload_n hx hb dX4_begin_10 rfl (lv_at hl 0 rfl) ?_
    refine lv_iconst (v := nI 1) hx hb dX4_begin_11 (by decide) ?_
    refine lv_iload_n hx hb dX4_begin_12 rfl (lv_at hl 1 rfl) ?_
    have hPc := hP.sub (ws' := [(m0, .inr (4, [.ref m1, .ref m2, .int (nI bk), .ref m3, .ref m4, .ref m5, .ref m6, .int sd, .ref m7, .ref m8, .int cl, .int pc, .int op])), (m1, .inl (km1, 93, .inl nw)), (m3, .inl (km3, 3720, .inl bc)), (m7, .inl (km7, 1525, .inl vl))]) [0, 1, 3, 7] rfl
    have hKc := hK.sub (tys' := [(km1, .int), (km3, .int), (km7, .int)]) [0, 2, 6] rfl
    have hDc := hD.sub (ws' := [(m0, .inr (4, [.ref m1, .ref m2, .int (nI bk), .ref m3, .ref m4, .ref m5, .ref m6, .int sd, .ref m7, .ref m8, .int cl, .int pc, .int op])), (m1, .inl (km1, 93, .inl nw)), (m3, .inl (km3, 3720, .inl bc)), (m7, .inl (km7, 1525, .inl vl))]) [0, 1, 3, 7] (by decide) rfl
    have hFc := va_free (wc := [(m0, .inr (4, [.ref m1, .ref m2, .int (nI bk), .ref m3, .ref m4, .ref m5, .ref m6, .int sd, .ref m7, .ref m8, .int cl, .int pc, .int op])), (m1, .inl (km1, 93, .inl nw)), (m3, .inl (km3, 3720, .inl bc)), (m7, .inl (km7, 1525, .inl vl))]) hD hS hA [0, 1, 3, 7] rfl
    refine va_calli (va_runV (As := [.int (nI 1), .int (nI j_2)]) (rest := []) ⟨hx, hb, hml, hown, hts⟩ (c_X4_becomes l dC dI m0 m1 m3 m7 m2 m4 m5 m6 m8 km1 km3 km7 H.size bk sd cl pc op nw bc vl 1 (nI j_2) (by first | assumption | omega) (by first | assumption | omega) (by first | assumption | omega) (by refine ⟨fun q => ?_, fun q => ?_, fun q => ?_, fun q => ?_, fun q => ?_, fun q q2 => ?_⟩ <;> first | (exfalso; omega) | exact ⟨_, by omega, rfl⟩) (by first | assumption | omega)) (cwV 2 hts gX4_begin_X4_becomes rfl rfl rfl (by decide +kernel) ⟨Nat.le_of_ble_eq_true rfl, Nat.le_of_ble_eq_true rfl⟩) ⟨fun a U g mk q => by obtain ⟨q0, q1, qP, qK, qD⟩ := q; exact ⟨q0, q1, qP, va_K.moved (u := U) (U := U.calling g mk a) (Vm.Alike.refl U.vm) qK, qD⟩, va_recv hKc hPc (ci := 4) (q0 := 0) rfl rfl, fun U hU hW => ⟨rfl, by rw [hU], by rw [hU]; exact hPc, va_K.moved hW.alike hKc, hDc.weaken (fun _ _ _ _ => trivial)⟩⟩ rfl rfl hl.1 rfl (lv_room (Nat.le_of_ble_eq_true rfl)) dX4_begin_13 ⟨Nat.le_of_ble_eq_true rfl, Nat.le_of_ble_eq_true rfl⟩) hS (fun q _ h => hFc q h) hFc (fun r_3 u9 t9 H1 locs ht hvm hw hB hz1 hk1 hS => ?_)
    refine W.widen (k := 0) (n := 0) (Nat.le_of_ble_eq_true rfl) (Nat.le_of_ble_eq_true rfl) ?_
    obtain ⟨bk_4, bc_5, nw_6, vl_7, h_8, h_9, h_10, hP1, hK1, hD1⟩ := hB
    rw [ht] at hP1
    have hw := hw.symm
    subst hw
    obtain ⟨hP, hD⟩ := va_join (wr := [(m2, .inl (km2, 93, .inl ws)), (m4, .inl (km4, 186, .inl im)), (m5, .inl (km5, 2, .inl isd)), (m6, .inl (km6, 2, .inl kp)), (m8, .inl (km8, 24, .inl pl))]) (w1 := [(m0, .inr (4, [.ref m1, .ref m2, .int (nI bk_4), .ref m3, .ref m4, .ref m5, .ref m6, .int sd, .ref m7, .ref m8, .int cl, .int pc, .int op])), (m1, .inl (km1, 93, .inl nw_6)), (m3, .inl (km3, 3720, .inl bc_5)), (m7, .inl (km7, 1525, .inl vl_7))]) hP hD [0, 1, 3, 7] [2, 4, 5, 6, 8] rfl rfl (by decide) (by decide) hk1 hFc hP1 hD1
    clear hPc hDc hKc hFc hz1 hk1 ht hvm hP1 hK1 hD1 t9
    generalize H1 = H at hP hS ⊢
    have hP := hP.sub (ws' := [(m0, .inr (4, [.ref m1, .ref m2, .int (nI bk_4), .ref m3, .ref m4, .ref m5, .ref m6, .int sd, .ref m7, .ref m8, .int cl, .int pc, .int op])), (m1, .inl (km1, 93, .inl nw_6)), (m2, .inl (km2, 93, .inl ws)), (m3, .inl (km3, 3720, .inl bc_5)), (m4, .inl (km4, 186, .inl im)), (m5, .inl (km5, 2, .inl isd)), (m6, .inl (km6, 2, .inl kp)), (m7, .inl (km7, 1525, .inl vl_7)), (m8, .inl (km8, 24, .inl pl))]) [5, 6, 0, 7, 1, 2, 3, 8, 4] rfl
    have hD := hD.sub (ws' := [(m0, .inr (4, [.ref m1, .ref m2, .int (nI bk_4), .ref m3, .ref m4, .ref m5, .ref m6, .int sd, .ref m7, .ref m8, .int cl, .int pc, .int op])), (m1, .inl (km1, 93, .inl nw_6)), (m2, .inl (km2, 93, .inl ws)), (m3, .inl (km3, 3720, .inl bc_5)), (m4, .inl (km4, 186, .inl im)), (m5, .inl (km5, 2, .inl isd)), (m6, .inl (km6, 2, .inl kp)), (m7, .inl (km7, 1525, .inl vl_7)), (m8, .inl (km8, 24, .inl pl))]) [5, 6, 0, 7, 1, 2, 3, 8, 4] (by decide) rfl
    refine lv_goto (tgt := 21) hx hb dX4_begin_16 (by decide) ?_
    subst hQe
    have hP9 := hP.sub (ws' := [(m0, .inr (4, [.ref m1, .ref m2, .int (nI bk_4), .ref m3, .ref m4, .ref m5, .ref m6, .int sd, .ref m7, .ref m8, .int cl, .int pc, .int op])), (m1, .inl (km1, 93, .inl nw_6)), (m2, .inl (km2, 93, .inl ws)), (m3, .inl (km3, 3720, .inl bc_5)), (m4, .inl (km4, 186, .inl im)), (m5, .inl (km5, 2, .inl isd)), (m6, .inl (km6, 2, .inl kp)), (m7, .inl (km7, 1525, .inl vl_7)), (m8, .inl (km8, 24, .inl pl))]) [0, 1, 2, 3, 4, 5, 6, 7, 8] rfl
    have hD9 := hD.sub (ws' := [(m0, .inr (4, [.ref m1, .ref m2, .int (nI bk_4), .ref m3, .ref m4, .ref m5, .ref m6, .int sd, .ref m7, .ref m8, .int cl, .int pc, .int op])), (m1, .inl (km1, 93, .inl nw_6)), (m2, .inl (km2, 93, .inl ws)), (m3, .inl (km3, 3720, .inl bc_5)), (m4, .inl (km4, 186, .inl im)), (m5, .inl (km5, 2, .inl isd)), (m6, .inl (km6, 2, .inl kp)), (m7, .inl (km7, 1525, .inl vl_7)), (m8, .inl (km8, 24, .inl pl))]) [0, 1, 2, 3, 4, 5, 6, 7, 8] (by decide) rfl
    have hK9 := hK.sub (tys' := [(km1, .int), (km2, .int), (km3, .int), (km4, .int), (km5, .int), (km6, .boolean), (km7, .int), (km8, .int)]) [0, 1, 2, 3, 4, 5, 6, 7] rfl
    subst hAe
    exact W.iret (v := r_3) hx hb hr (fun t ht hW => ⟨⟨_, _, rfl, rfl, bk_4, sd, cl, pc, op, nw_6, ws, bc_5, im, isd, vl_7, pl, (by first | assumption | omega), (by first | assumption | omega), (by first | assumption | omega), (by first | assumption | omega), (by first | assumption | omega), by rw [ht]; exact hP9, va_K.moved hW.alike hK9, hD9⟩, hS.F ht⟩) hS.2.2 dX4_begin_21
set_option maxHeartbeats 4000000 in
set_option maxRecDepth 100000 in
theorem c_X4_hold (l : Launch) (dC : Nat → ClassId) (dI : Nat → Nat → Nat) (m0 m1 m2 m3 m4 m5 m6 m7 m8 : Nat) (km1 km2 km3 km4 km5 km6 km7 km8 : ClassId) (sz : Nat) (bk : Nat) (sd : Int32) (cl : Int32) (pc : Int32) (op : Int32) (nw : Nat → Int32) (ws : Nat → Int32) (bc : Nat → Int32) (im : Nat → Int32) (isd : Nat → Int32) (kp : Nat → Int32) (vl : Nat → Int32) (pl : Nat → Int32) (a : Int32) (i0 : bk ≤ 40) (i1 : okN nw) (i2 : okB 40 bc) (i3 : okB 2 im) (i4 : bdA 60 24 pl) : Met l yX4_hold wsX4_hold ({ frames := 8, cells := 0, slots := 0, locals := 184 }) (va_Pc [.ref m0, .int a] (fun U => U.heap.size = sz ∧ va_P (dC, dI) vwCl [(m0, .inr (4, [.ref m1, .ref m2, .int (nI bk), .ref m3, .ref m4, .ref m5, .ref m6, .int sd, .ref m7, .ref m8, .int cl, .int pc, .int op])), (m1, .inl (km1, 93, .inl nw)), (m2, .inl (km2, 93, .inl ws)), (m3, .inl (km3, 3720, .inl bc)), (m4, .inl (km4, 186, .inl im)), (m5, .inl (km5, 2, .inl isd)), (m6, .inl (km6, 2, .inl kp)), (m7, .inl (km7, 1525, .inl vl)), (m8, .inl (km8, 24, .inl pl))] U.heap ∧ va_K (dC, dI) vwCl [(km1, .int), (km2, .int), (km3, .int), (km4, .int), (km5, .int), (km6, .boolean), (km7, .int), (km8, .int)] U ∧ va_D (fun _ => True) [(m0, .inr (4, [.ref m1, .ref m2, .int (nI bk), .ref m3, .ref m4, .ref m5, .ref m6, .int sd, .ref m7, .ref m8, .int cl, .int pc, .int op])), (m1, .inl (km1, 93, .inl nw)), (m2, .inl (km2, 93, .inl ws)), (m3, .inl (km3, 3720, .inl bc)), (m4, .inl (km4, 186, .inl im)), (m5, .inl (km5, 2, .inl isd)), (m6, .inl (km6, 2, .inl kp)), (m7, .inl (km7, 1525, .inl vl)), (m8, .inl (km8, 24, .inl pl))])) (va_Qi (fun (r u : Int32) => u = r) (fun r t => ∃ (bk' : Nat) (sd' : Int32) (cl' : Int32) (pc' : Int32) (op' : Int32) (nw' : Nat → Int32) (ws' : Nat → Int32) (bc' : Nat → Int32) (im' : Nat → Int32) (isd' : Nat → Int32) (vl' : Nat → Int32) (pl' : Nat → Int32), bk' ≤ 40 ∧ okN nw' ∧ okB 40 bc' ∧ okB 2 im' ∧ bdA 60 24 pl' ∧ va_P (dC, dI) vwCl [(m0, .inr (4, [.ref m1, .ref m2, .int (nI bk'), .ref m3, .ref m4, .ref m5, .ref m6, .int sd', .ref m7, .ref m8, .int cl', .int pc', .int op'])), (m1, .inl (km1, 93, .inl nw')), (m2, .inl (km2, 93, .inl ws')), (m3, .inl (km3, 3720, .inl bc')), (m4, .inl (km4, 186, .inl im')), (m5, .inl (km5, 2, .inl isd')), (m6, .inl (km6, 2, .inl kp)), (m7, .inl (km7, 1525, .inl vl')), (m8, .inl (km8, 24, .inl pl'))] t.heap ∧ va_K (dC, dI) vwCl [(km1, .int), (km2, .int), (km3, .int), (km4, .int), (km5, .int), (km6, .boolean), (km7, .int), (km8, .int)] t ∧ va_D (va_A [(m0, .inr (4, [.ref m1, .ref m2, .int (nI bk), .ref m3, .ref m4, .ref m5, .ref m6, .int sd, .ref m7, .ref m8, .int cl, .int pc, .int op])), (m1, .inl (km1, 93, .inl nw)), (m2, .inl (km2, 93, .inl ws)), (m3, .inl (km3, 3720, .inl bc)), (m4, .inl (km4, 186, .inl im)), (m5, .inl (km5, 2, .inl isd)), (m6, .inl (km6, 2, .inl kp)), (m7, .inl (km7, 1525, .inl vl)), (m8, .inl (km8, 24, .inl pl))] sz) [(m0, .inr (4, [.ref m1, .ref m2, .int (nI bk'), .ref m3, .ref m4, .ref m5, .ref m6, .int sd', .ref m7, .ref m8, .int cl', .int pc', .int op'])), (m1, .inl (km1, 93, .inl nw')), (m2, .inl (km2, 93, .inl ws')), (m3, .inl (km3, 3720, .inl bc')), (m4, .inl (km4, 186, .inl im')), (m5, .inl (km5, 2, .inl isd')), (m6, .inl (km6, 2, .inl kp)), (m7, .inl (km7, 1525, .inl vl')), (m8, .inl (km8, 24, .inl pl'))]) (va_A [(m0, .inr (4, [.ref m1, .ref m2, .int (nI bk), .ref m3, .ref m4, .ref m5, .ref m6, .int sd, .ref m7, .ref m8, .int cl, .int pc, .int op])), (m1, .inl (km1, 93, .inl nw)), (m2, .inl (km2, 93, .inl ws)), (m3, .inl (km3, 3720, .inl bc)), (m4, .inl (km4, 186, .inl im)), (m5, .inl (km5, 2, .inl isd)), (m6, .inl (km6, 2, .inl kp)), (m7, .inl (km7, 1525, .inl vl)), (m8, .inl (km8, 24, .inl pl))] sz)) 0 0 (va_A [(m0, .inr (4, [.ref m1, .ref m2, .int (nI bk), .ref m3, .ref m4, .ref m5, .ref m6, .int sd, .ref m7, .ref m8, .int cl, .int pc, .int op])), (m1, .inl (km1, 93, .inl nw)), (m2, .inl (km2, 93, .inl ws)), (m3, .inl (km3, 3720, .inl bc)), (m4, .inl (km4, 186, .inl im)), (m5, .inl (km5, 2, .inl isd)), (m6, .inl (km6, 2, .inl kp)), (m7, .inl (km7, 1525, .inl vl)), (m8, .inl (km8, 24, .inl pl))] sz) := by
  refine Met.ofW (cc := cX4_hold) (maxL := 2) (ret := (some .int)) (by decide) rfl ?_
  intro p e s m args below meth c s₁ B hml hv
  obtain ⟨rfl, hsz, hP, hK, hD0⟩ := hv
  have hx := B.exec
  have hb := B.bytes
  have hr := B.returns
  have hts := atoms_spec (ws := wsX4_hold) B.pre
  have hown : s.vm.findClass RX4 = some m.cls := findClass_of_methodNamed B.named
  have hlocks := B.notSynchronized
  have inX4 : ∀ w ∈ wsX40, w ∈ wsX4_hold := fun _ h => List.mem_cons_of_mem _ (List.mem_append_right _ h)
  subst hsz
  have hD := hD0.self (sz := s.heap.size)
  generalize hAe : va_A [(m0, .inr (4, [.ref m1, .ref m2, .int (nI bk), .ref m3, .ref m4, .ref m5, .ref m6, .int sd, .ref m7, .ref m8, .int cl, .int pc, .int op])), (m1, .inl (km1, 93, .inl nw)), (m2, .inl (km2, 93, .inl ws)), (m3, .inl (km3, 3720, .inl bc)), (m4, .inl (km4, 186, .inl im)), (m5, .inl (km5, 2, .inl isd)), (m6, .inl (km6, 2, .inl kp)), (m7, .inl (km7, 1525, .inl vl)), (m8, .inl (km8, 24, .inl pl))] s.heap.size = A at hD ⊢
  have hA : ∀ q : Nat, s.heap.size ≤ q → A q := fun q h => by rw [← hAe]; exact Or.inr h
  have hS : va_S A s.heap s.heap [] := va_S.rf
  have hl := lv_entry ([.ref m0, .int a]) (n := 2) (Nat.le_of_ble_eq_true rfl)
  rw [lg_entry_eq]
  generalize (lg_sl ([.ref m0, .int a]) ++ List.replicate (2 - (lg_sl ([.ref m0, .int a])).length) Slot.unset).toArray = ls at hl ⊢
  generalize hQe : MQ below _ _ s 0 0 _ = Q
  generalize ([.ref m0, .int a] : List Value).toArray = args at hts hQe ⊢
  have hl : lv_has ls 2 [(0, .ref m0), (1, .int a)] := hl
  refine lv_iload_n hx hb dX4_hold_0 rfl (lv_at hl 1 rfl) ?_
  refine lv_iconst (v := nI 0) hx hb dX4_hold_1 (by decide) ?_
  refine lv_bipush (v := nI 9) hx hb dX4_hold_2 (by decide) ?_
  refine va_calli (va_runS (As := [.int a, .int (nI 0), .int (nI 9)]) (rest := []) ⟨hx, hb, hml, hown, hts⟩ (c_X4_in l dC dI   a (nI 0) (nI 9)  ) (va_cwS 3 hts gX4_hold_X4_in rfl rfl rfl (by decide +kernel) ⟨Nat.le_of_ble_eq_true rfl, Nat.le_of_ble_eq_true rfl⟩) ⟨fun a U g mk q => q, fun U hU hW => ⟨rfl, trivial⟩⟩ rfl rfl hl.1 rfl (lv_room (Nat.le_of_ble_eq_true rfl)) dX4_hold_4 ⟨Nat.le_of_ble_eq_true rfl, Nat.le_of_ble_eq_true rfl⟩) hS (fun q _ h => h.elim) (fun q h => h.elim) (fun r_1 u9 t9 H1 locs ht hvm hw hB hz1 hk1 hS => ?_)
  refine W.widen (k := 0) (n := 0) (Nat.le_of_ble_eq_true rfl) (Nat.le_of_ble_eq_true rfl) ?_
  have hP := hP.kept (H1 := H1) (fun k q hk => hk1 q.1 (hP k q hk).lt (fun h => h))
  clear hz1 hk1 hB ht hvm t9
  generalize H1 = H at hP hS ⊢
  have hP : va_P (dC, dI) vwCl [(m0, .inr (4, [.ref m1, .ref m2, .int (nI bk), .ref m3, .ref m4, .ref m5, .ref m6, .int sd, .ref m7, .ref m8, .int cl, .int pc, .int op])), (m1, .inl (km1, 93, .inl nw)), (m2, .inl (km2, 93, .inl ws)), (m3, .inl (km3, 3720, .inl bc)), (m4, .inl (km4, 186, .inl im)), (m5, .inl (km5, 2, .inl isd)), (m6, .inl (km6, 2, .inl kp)), (m7, .inl (km7, 1525, .inl vl)), (m8, .inl (km8, 24, .inl pl))] H := hP
  have wr_1 := hw
  clear hw
  refine lv_if_eq (tgt := 19) hx hb dX4_hold_7 (by decide) (fun c_7 => ?_) (fun c_7 => ?_)
  · have nc_7 := b_0 wr_1 c_7
    refine lv_ldc (own := RX4) (v := (-1000000002)) hx hb hown (hts (.constant RX4 110 (-1000000002)) (List.mem_of_getElem? (i := 1) rfl)) dX4_hold_19 ?_
    subst hQe
    have hP9 := hP.sub (ws' := [(m0, .inr (4, [.ref m1, .ref m2, .int (nI bk), .ref m3, .ref m4, .ref m5, .ref m6, .int sd, .ref m7, .ref m8, .int cl, .int pc, .int op])), (m1, .inl (km1, 93, .inl nw)), (m2, .inl (km2, 93, .inl ws)), (m3, .inl (km3, 3720, .inl bc)), (m4, .inl (km4, 186, .inl im)), (m5, .inl (km5, 2, .inl isd)), (m6, .inl (km6, 2, .inl kp)), (m7, .inl (km7, 1525, .inl vl)), (m8, .inl (km8, 24, .inl pl))]) [0, 1, 2, 3, 4, 5, 6, 7, 8] rfl
    have hD9 := hD.sub (ws' := [(m0, .inr (4, [.ref m1, .ref m2, .int (nI bk), .ref m3, .ref m4, .ref m5, .ref m6, .int sd, .ref m7, .ref m8, .int cl, .int pc, .int op])), (m1, .inl (km1, 93, .inl nw)), (m2, .inl (km2, 93, .inl ws)), (m3, .inl (km3, 3720, .inl bc)), (m4, .inl (km4, 186, .inl im)), (m5, .inl (km5, 2, .inl isd)), (m6, .inl (km6, 2, .inl kp)), (m7, .inl (km7, 1525, .inl vl)), (m8, .inl (km8, 24, .inl pl))]) [0, 1, 2, 3, 4, 5, 6, 7, 8] (by decide) rfl
    have hK9 := hK.sub (tys' := [(km1, .int), (km2, .int), (km3, .int), (km4, .int), (km5, .int), (km6, .boolean), (km7, .int), (km8, .int)]) [0, 1, 2, 3, 4, 5, 6, 7] rfl
    subst hAe
    exact W.iret (v := ((-1000000002))) hx hb hr (fun t ht hW => ⟨⟨_, _, rfl, rfl, bk, sd, cl, pc, op, nw, ws, bc, im, isd, vl, pl, (by first | assumption | omega), (by first | assumption | omega), (by first | assumption | omega), (by first | assumption | omega), (by first | assumption | omega), by rw [ht]; exact hP9, va_K.moved hW.alike hK9, hD9⟩, hS.F ht⟩) hS.2.2 dX4_hold_21
  · obtain ⟨j_2, hj_2, rfl⟩ := rg_0 (by decide) (b_1 wr_1 c_7)
    refine lv_aload_n hx hb dX4_hold_10 rfl (lv_at hl 0 rfl) ?_
    refine lv_iconst (v := nI 4) hx hb dX4_hold_11 (by decide) ?_
    refine lv_iload_n hx hb dX4_hold_12 rfl (lv_at hl 1 rfl) ?_
    have hPc := hP.sub (ws' := [(m0, .inr (4, [.ref m1, .ref m2, .int (nI bk), .ref m3, .ref m4, .ref m5, .ref m6, .int sd, .ref m7, .ref m8, .int cl, .int pc, .int op])), (m1, .inl (km1, 93, .inl nw)), (m3, .inl (km3, 3720, .inl bc)), (m7, .inl (km7, 1525, .inl vl))]) [0, 1, 3, 7] rfl
    have hKc := hK.sub (tys' := [(km1, .int), (km3, .int), (km7, .int)]) [0, 2, 6] rfl
    have hDc := hD.sub (ws' := [(m0, .inr (4, [.ref m1, .ref m2, .int (nI bk), .ref m3, .ref m4, .ref m5, .ref m6, .int sd, .ref m7, .ref m8, .int cl, .int pc, .int op])), (m1, .inl (km1, 93, .inl nw)), (m3, .inl (km3, 3720, .inl bc)), (m7, .inl (km7, 1525, .inl vl))]) [0, 1, 3, 7] (by decide) rfl
    have hFc := va_free (wc := [(m0, .inr (4, [.ref m1, .ref m2, .int (nI bk), .ref m3, .ref m4, .ref m5, .ref m6, .int sd, .ref m7, .ref m8, .int cl, .int pc, .int op])), (m1, .inl (km1, 93, .inl nw)), (m3, .inl (km3, 3720, .inl bc)), (m7, .inl (km7, 1525, .inl vl))]) hD hS hA [0, 1, 3, 7] rfl
    refine va_calli (va_runV (As := [.int (nI 4), .int (nI j_2)]) (rest := []) ⟨hx, hb, hml, hown, hts⟩ (c_X4_becomes l dC dI m0 m1 m3 m7 m2 m4 m5 m6 m8 km1 km3 km7 H.size bk sd cl pc op nw bc vl 4 (nI j_2) (by first | assumption | omega) (by first | assumption | omega) (by first | assumption | omega) (by refine ⟨fun q => ?_, fun q => ?_, fun q => ?_, fun q => ?_, fun q => ?_, fun q q2 => ?_⟩ <;> first | (exfalso; omega) | exact ⟨_, by omega, rfl⟩) (by first | assumption | omega)) (cwV 2 hts gX4_hold_X4_becomes rfl rfl rfl (by decide +kernel) ⟨Nat.le_of_ble_eq_true rfl, Nat.le_of_ble_eq_true rfl⟩) ⟨fun a U g mk q => by obtain ⟨q0, q1, qP, qK, qD⟩ := q; exact ⟨q0, q1, qP, va_K.moved (u := U) (U := U.calling g mk a) (Vm.Alike.refl U.vm) qK, qD⟩, va_recv hKc hPc (ci := 4) (q0 := 0) rfl rfl, fun U hU hW => ⟨rfl, by rw [hU], by rw [hU]; exact hPc, va_K.moved hW.alike hKc, hDc.weaken (fun _ _ _ _ => trivial)⟩⟩ rfl rfl hl.1 rfl (lv_room (Nat.le_of_ble_eq_true rfl)) dX4_hold_13 ⟨Nat.le_of_ble_eq_true rfl, Nat.le_of_ble_eq_true rfl⟩) hS (fun q _ h => hFc q h) hFc (fun r_3 u9 t9 H1 locs ht hvm hw hB hz1 hk1 hS => ?_)
    refine W.widen (k := 0) (n := 0) (Nat.le_of_ble_eq_true rfl) (Nat.le_of_ble_eq_true rfl) ?_
    obtain ⟨bk_4, bc_5, nw_6, vl_7, h_8, h_9, h_10, hP1, hK1, hD1⟩ := hB
    rw [ht] at hP1
    have hw := hw.symm
    subst hw
    obtain ⟨hP, hD⟩ := va_join (wr := [(m2, .inl (km2, 93, .inl ws)), (m4, .inl (km4, 186, .inl im)), (m5, .inl (km5, 2, .inl isd)), (m6, .inl (km6, 2, .inl kp)), (m8, .inl (km8, 24, .inl pl))]) (w1 := [(m0, .inr (4, [.ref m1, .ref m2, .int (nI bk_4), .ref m3, .ref m4, .ref m5, .ref m6, .int sd, .ref m7, .ref m8, .int cl, .int pc, .int op])), (m1, .inl (km1, 93, .inl nw_6)), (m3, .inl (km3, 3720, .inl bc_5)), (m7, .inl (km7, 1525, .inl vl_7))]) hP hD [0, 1, 3, 7] [2, 4, 5, 6, 8] rfl rfl (by decide) (by decide) hk1 hFc hP1 hD1
    clear hPc hDc hKc hFc hz1 hk1 ht hvm hP1 hK1 hD1 t9
    generalize H1 = H at hP hS ⊢
    have hP := hP.sub (ws' := [(m0, .inr (4, [.ref m1, .ref m2, .int (nI bk_4), .ref m3, .ref m4, .ref m5, .ref m6, .int sd, .ref m7, .ref m8, .int cl, .int pc, .int op])), (m1, .inl (km1, 93, .inl nw_6)), (m2, .inl (km2, 93, .inl ws)), (m3, .inl (km3, 3720, .inl bc_5)), (m4, .inl (km4, 186, .inl im)), (m5, .inl (km5, 2, .inl isd)), (m6, .inl (km6, 2, .inl kp)), (m7, .inl (km7, 1525, .inl vl_7)), (m8, .inl (km8, 24, .inl pl))]) [5, 6, 0, 7, 1, 2, 3, 8, 4] rfl
    have hD := hD.sub (ws' := [(m0, .inr (4, [.ref m1, .ref m2, .int (nI bk_4), .ref m3, .ref m4, .ref m5, .ref m6, .int sd, .ref m7, .ref m8, .int cl, .int pc, .int op])), (m1, .inl (km1, 93, .inl nw_6)), (m2, .inl (km2, 93, .inl ws)), (m3, .inl (km3, 3720, .inl bc_5)), (m4, .inl (km4, 186, .inl im)), (m5, .inl (km5, 2, .inl isd)), (m6, .inl (km6, 2, .inl kp)), (m7, .inl (km7, 1525, .inl vl_7)), (m8, .inl (km8, 24, .inl pl))]) [5, 6, 0, 7, 1, 2, 3, 8, 4] (by decide) rfl
    refine lv_goto (tgt := 21) hx hb dX4_hold_16 (by decide) ?_
    subst hQe
    have hP9 := hP.sub (ws' := [(m0, .inr (4, [.ref m1, .ref m2, .int (nI bk_4), .ref m3, .ref m4, .ref m5, .ref m6, .int sd, .ref m7, .ref m8, .int cl, .int pc, .int op])), (m1, .inl (km1, 93, .inl nw_6)), (m2, .inl (km2, 93, .inl ws)), (m3, .inl (km3, 3720, .inl bc_5)), (m4, .inl (km4, 186, .inl im)), (m5, .inl (km5, 2, .inl isd)), (m6, .inl (km6, 2, .inl kp)), (m7, .inl (km7, 1525, .inl vl_7)), (m8, .inl (km8, 24, .inl pl))]) [0, 1, 2, 3, 4, 5, 6, 7, 8] rfl
    have hD9 := hD.sub (ws' := [(m0, .inr (4, [.ref m1, .ref m2, .int (nI bk_4), .ref m3, .ref m4, .ref m5, .ref m6, .int sd, .ref m7, .ref m8, .int cl, .int pc, .int op])), (m1, .inl (km1, 93, .inl nw_6)), (m2, .inl (km2, 93, .inl ws)), (m3, .inl (km3, 3720, .inl bc_5)), (m4, .inl (km4, 186, .inl im)), (m5, .inl (km5, 2, .inl isd)), (m6, .inl (km6, 2, .inl kp)), (m7, .inl (km7, 1525, .inl vl_7)), (m8, .inl (km8, 24, .inl pl))]) [0, 1, 2, 3, 4, 5, 6, 7, 8] (by decide) rfl
    have hK9 := hK.sub (tys' := [(km1, .int), (km2, .int), (km3, .int), (km4, .int), (km5, .int), (km6, .boolean), (km7, .int), (km8, .int)]) [0, 1, 2, 3, 4, 5, 6, 7] rfl
    subst hAe
    exact W.iret (v := r_3) hx hb hr (fun t ht hW => ⟨⟨_, _, rfl, rfl, bk_4, sd, cl, pc, op, nw_6, ws, bc_5, im, isd, vl_7, pl, (by first | assumption | omega), (by first | assumption | omega), (by first | assumption | omega), (by first | assumption | omega), (by first | assumption | omega), by rw [ht]; exact hP9, va_K.moved hW.alike hK9, hD9⟩, hS.F ht⟩) hS.2.2 dX4_hold_21
set_option maxHeartbeats 4000000 in
set_option maxRecDepth 100000 in
theorem c_X4_worth (l : Launch) (dC : Nat → ClassId) (dI : Nat → Nat → Nat) (m0 m1 m2 m3 m4 m5 m6 m7 m8 : Nat) (km1 km2 km3 km4 km5 km6 km7 km8 : ClassId) (sz : Nat) (bk : Nat) (sd : Int32) (cl : Int32) (pc : Int32) (op : Int32) (nw : Nat → Int32) (ws : Nat → Int32) (bc : Nat → Int32) (im : Nat → Int32) (isd : Nat → Int32) (kp : Nat → Int32) (vl : Nat → Int32) (pl : Nat → Int32) (a : Int32) (i0 : bk ≤ 40) (i1 : okN nw) (i2 : okB 40 bc) (i3 : okB 2 im) (i4 : bdA 60 24 pl) : Met l yX4_worth wsX4_worth ({ frames := 8, cells := 0, slots := 0, locals := 184 }) (va_Pc [.ref m0, .int a] (fun U => U.heap.size = sz ∧ va_P (dC, dI) vwCl [(m0, .inr (4, [.ref m1, .ref m2, .int (nI bk), .ref m3, .ref m4, .ref m5, .ref m6, .int sd, .ref m7, .ref m8, .int cl, .int pc, .int op])), (m1, .inl (km1, 93, .inl nw)), (m2, .inl (km2, 93, .inl ws)), (m3, .inl (km3, 3720, .inl bc)), (m4, .inl (km4, 186, .inl im)), (m5, .inl (km5, 2, .inl isd)), (m6, .inl (km6, 2, .inl kp)), (m7, .inl (km7, 1525, .inl vl)), (m8, .inl (km8, 24, .inl pl))] U.heap ∧ va_K (dC, dI) vwCl [(km1, .int), (km2, .int), (km3, .int), (km4, .int), (km5, .int), (km6, .boolean), (km7, .int), (km8, .int)] U ∧ va_D (fun _ => True) [(m0, .inr (4, [.ref m1, .ref m2, .int (nI bk), .ref m3, .ref m4, .ref m5, .ref m6, .int sd, .ref m7, .ref m8, .int cl, .int pc, .int op])), (m1, .inl (km1, 93, .inl nw)), (m2, .inl (km2, 93, .inl ws)), (m3, .inl (km3, 3720, .inl bc)), (m4, .inl (km4, 186, .inl im)), (m5, .inl (km5, 2, .inl isd)), (m6, .inl (km6, 2, .inl kp)), (m7, .inl (km7, 1525, .inl vl)), (m8, .inl (km8, 24, .inl pl))])) (va_Qi (fun (r u : Int32) => u = r) (fun r t => ∃ (bk' : Nat) (sd' : Int32) (cl' : Int32) (pc' : Int32) (op' : Int32) (nw' : Nat → Int32) (ws' : Nat → Int32) (bc' : Nat → Int32) (im' : Nat → Int32) (isd' : Nat → Int32) (vl' : Nat → Int32) (pl' : Nat → Int32), bk' ≤ 40 ∧ okN nw' ∧ okB 40 bc' ∧ okB 2 im' ∧ bdA 60 24 pl' ∧ va_P (dC, dI) vwCl [(m0, .inr (4, [.ref m1, .ref m2, .int (nI bk'), .ref m3, .ref m4, .ref m5, .ref m6, .int sd', .ref m7, .ref m8, .int cl', .int pc', .int op'])), (m1, .inl (km1, 93, .inl nw')), (m2, .inl (km2, 93, .inl ws')), (m3, .inl (km3, 3720, .inl bc')), (m4, .inl (km4, 186, .inl im')), (m5, .inl (km5, 2, .inl isd')), (m6, .inl (km6, 2, .inl kp)), (m7, .inl (km7, 1525, .inl vl')), (m8, .inl (km8, 24, .inl pl'))] t.heap ∧ va_K (dC, dI) vwCl [(km1, .int), (km2, .int), (km3, .int), (km4, .int), (km5, .int), (km6, .boolean), (km7, .int), (km8, .int)] t ∧ va_D (va_A [(m0, .inr (4, [.ref m1, .ref m2, .int (nI bk), .ref m3, .ref m4, .ref m5, .ref m6, .int sd, .ref m7, .ref m8, .int cl, .int pc, .int op])), (m1, .inl (km1, 93, .inl nw)), (m2, .inl (km2, 93, .inl ws)), (m3, .inl (km3, 3720, .inl bc)), (m4, .inl (km4, 186, .inl im)), (m5, .inl (km5, 2, .inl isd)), (m6, .inl (km6, 2, .inl kp)), (m7, .inl (km7, 1525, .inl vl)), (m8, .inl (km8, 24, .inl pl))] sz) [(m0, .inr (4, [.ref m1, .ref m2, .int (nI bk'), .ref m3, .ref m4, .ref m5, .ref m6, .int sd', .ref m7, .ref m8, .int cl', .int pc', .int op'])), (m1, .inl (km1, 93, .inl nw')), (m2, .inl (km2, 93, .inl ws')), (m3, .inl (km3, 3720, .inl bc')), (m4, .inl (km4, 186, .inl im')), (m5, .inl (km5, 2, .inl isd')), (m6, .inl (km6, 2, .inl kp)), (m7, .inl (km7, 1525, .inl vl')), (m8, .inl (km8, 24, .inl pl'))]) (va_A [(m0, .inr (4, [.ref m1, .ref m2, .int (nI bk), .ref m3, .ref m4, .ref m5, .ref m6, .int sd, .ref m7, .ref m8, .int cl, .int pc, .int op])), (m1, .inl (km1, 93, .inl nw)), (m2, .inl (km2, 93, .inl ws)), (m3, .inl (km3, 3720, .inl bc)), (m4, .inl (km4, 186, .inl im)), (m5, .inl (km5, 2, .inl isd)), (m6, .inl (km6, 2, .inl kp)), (m7, .inl (km7, 1525, .inl vl)), (m8, .inl (km8, 24, .inl pl))] sz)) 0 0 (va_A [(m0, .inr (4, [.ref m1, .ref m2, .int (nI bk), .ref m3, .ref m4, .ref m5, .ref m6, .int sd, .ref m7, .ref m8, .int cl, .int pc, .int op])), (m1, .inl (km1, 93, .inl nw)), (m2, .inl (km2, 93, .inl ws)), (m3, .inl (km3, 3720, .inl bc)), (m4, .inl (km4, 186, .inl im)), (m5, .inl (km5, 2, .inl isd)), (m6, .inl (km6, 2, .inl kp)), (m7, .inl (km7, 1525, .inl vl)), (m8, .inl (km8, 24, .inl pl))] sz) := by
  refine Met.ofW (cc := cX4_worth) (maxL := 2) (ret := (some .int)) (by decide) rfl ?_
  intro p e s m args below meth c s₁ B hml hv
  obtain ⟨rfl, hsz, hP, hK, hD0⟩ := hv
  have hx := B.exec
  have hb := B.bytes
  have hr := B.returns
  have hts := atoms_spec (ws := wsX4_worth) B.pre
  have hown : s.vm.findClass RX4 = some m.cls := findClass_of_methodNamed B.named
  have hlocks := B.notSynchronized
  have inX4 : ∀ w ∈ wsX40, w ∈ wsX4_worth := fun _ h => List.mem_cons_of_mem _ (List.mem_append_right _ h)
  subst hsz
  have hD := hD0.self (sz := s.heap.size)
  generalize hAe : va_A [(m0, .inr (4, [.ref m1, .ref m2, .int (nI bk), .ref m3, .ref m4, .ref m5, .ref m6, .int sd, .ref m7, .ref m8, .int cl, .int pc, .int op])), (m1, .inl (km1, 93, .inl nw)), (m2, .inl (km2, 93, .inl ws)), (m3, .inl (km3, 3720, .inl bc)), (m4, .inl (km4, 186, .inl im)), (m5, .inl (km5, 2, .inl isd)), (m6, .inl (km6, 2, .inl kp)), (m7, .inl (km7, 1525, .inl vl)), (m8, .inl (km8, 24, .inl pl))] s.heap.size = A at hD ⊢
  have hA : ∀ q : Nat, s.heap.size ≤ q → A q := fun q h => by rw [← hAe]; exact Or.inr h
  have hS : va_S A s.heap s.heap [] := va_S.rf
  have hl := lv_entry ([.ref m0, .int a]) (n := 2) (Nat.le_of_ble_eq_true rfl)
  rw [lg_entry_eq]
  generalize (lg_sl ([.ref m0, .int a]) ++ List.replicate (2 - (lg_sl ([.ref m0, .int a])).length) Slot.unset).toArray = ls at hl ⊢
  generalize hQe : MQ below _ _ s 0 0 _ = Q
  generalize ([.ref m0, .int a] : List Value).toArray = args at hts hQe ⊢
  have hl : lv_has ls 2 [(0, .ref m0), (1, .int a)] := hl
  refine lv_iload_n hx hb dX4_worth_0 rfl (lv_at hl 1 rfl) ?_
  refine lv_bipush (v := (-99)) hx hb dX4_worth_1 (by decide) ?_
  refine lv_bipush (v := nI 99) hx hb dX4_worth_3 (by decide) ?_
  refine va_calli (va_runS (As := [.int a, .int ((-99)), .int (nI 99)]) (rest := []) ⟨hx, hb, hml, hown, hts⟩ (c_X4_in l dC dI   a ((-99)) (nI 99)  ) (va_cwS 3 hts gX4_worth_X4_in rfl rfl rfl (by decide +kernel) ⟨Nat.le_of_ble_eq_true rfl, Nat.le_of_ble_eq_true rfl⟩) ⟨fun a U g mk q => q, fun U hU hW => ⟨rfl, trivial⟩⟩ rfl rfl hl.1 rfl (lv_room (Nat.le_of_ble_eq_true rfl)) dX4_worth_5 ⟨Nat.le_of_ble_eq_true rfl, Nat.le_of_ble_eq_true rfl⟩) hS (fun q _ h => h.elim) (fun q h => h.elim) (fun r_1 u9 t9 H1 locs ht hvm hw hB hz1 hk1 hS => ?_)
  refine W.widen (k := 0) (n := 0) (Nat.le_of_ble_eq_true rfl) (Nat.le_of_ble_eq_true rfl) ?_
  have hP := hP.kept (H1 := H1) (fun k q hk => hk1 q.1 (hP k q hk).lt (fun h => h))
  clear hz1 hk1 hB ht hvm t9
  generalize H1 = H at hP hS ⊢
  have hP : va_P (dC, dI) vwCl [(m0, .inr (4, [.ref m1, .ref m2, .int (nI bk), .ref m3, .ref m4, .ref m5, .ref m6, .int sd, .ref m7, .ref m8, .int cl, .int pc, .int op])), (m1, .inl (km1, 93, .inl nw)), (m2, .inl (km2, 93, .inl ws)), (m3, .inl (km3, 3720, .inl bc)), (m4, .inl (km4, 186, .inl im)), (m5, .inl (km5, 2, .inl isd)), (m6, .inl (km6, 2, .inl kp)), (m7, .inl (km7, 1525, .inl vl)), (m8, .inl (km8, 24, .inl pl))] H := hP
  have wr_1 := hw
  clear hw
  refine lv_if_eq (tgt := 20) hx hb dX4_worth_8 (by decide) (fun c_8 => ?_) (fun c_8 => ?_)
  · have nc_8 := b_0 wr_1 c_8
    refine lv_ldc (own := RX4) (v := (-1000000002)) hx hb hown (hts (.constant RX4 110 (-1000000002)) (List.mem_of_getElem? (i := 1) rfl)) dX4_worth_20 ?_
    subst hQe
    have hP9 := hP.sub (ws' := [(m0, .inr (4, [.ref m1, .ref m2, .int (nI bk), .ref m3, .ref m4, .ref m5, .ref m6, .int sd, .ref m7, .ref m8, .int cl, .int pc, .int op])), (m1, .inl (km1, 93, .inl nw)), (m2, .inl (km2, 93, .inl ws)), (m3, .inl (km3, 3720, .inl bc)), (m4, .inl (km4, 186, .inl im)), (m5, .inl (km5, 2, .inl isd)), (m6, .inl (km6, 2, .inl kp)), (m7, .inl (km7, 1525, .inl vl)), (m8, .inl (km8, 24, .inl pl))]) [0, 1, 2, 3, 4, 5, 6, 7, 8] rfl
    have hD9 := hD.sub (ws' := [(m0, .inr (4, [.ref m1, .ref m2, .int (nI bk), .ref m3, .ref m4, .ref m5, .ref m6, .int sd, .ref m7, .ref m8, .int cl, .int pc, .int op])), (m1, .inl (km1, 93, .inl nw)), (m2, .inl (km2, 93, .inl ws)), (m3, .inl (km3, 3720, .inl bc)), (m4, .inl (km4, 186, .inl im)), (m5, .inl (km5, 2, .inl isd)), (m6, .inl (km6, 2, .inl kp)), (m7, .inl (km7, 1525, .inl vl)), (m8, .inl (km8, 24, .inl pl))]) [0, 1, 2, 3, 4, 5, 6, 7, 8] (by decide) rfl
    have hK9 := hK.sub (tys' := [(km1, .int), (km2, .int), (km3, .int), (km4, .int), (km5, .int), (km6, .boolean), (km7, .int), (km8, .int)]) [0, 1, 2, 3, 4, 5, 6, 7] rfl
    subst hAe
    exact W.iret (v := ((-1000000002))) hx hb hr (fun t ht hW => ⟨⟨_, _, rfl, rfl, bk, sd, cl, pc, op, nw, ws, bc, im, isd, vl, pl, (by first | assumption | omega), (by first | assumption | omega), (by first | assumption | omega), (by first | assumption | omega), (by first | assumption | omega), by rw [ht]; exact hP9, va_K.moved hW.alike hK9, hD9⟩, hS.F ht⟩) hS.2.2 dX4_worth_22
  · have nc_8 := b_1 wr_1 c_8
    refine lv_aload_n hx hb dX4_worth_11 rfl (lv_at hl 0 rfl) ?_
    refine lv_iconst (v := nI 5) hx hb dX4_worth_12 (by decide) ?_
    refine lv_iload_n hx hb dX4_worth_13 rfl (lv_at hl 1 rfl) ?_
    have hPc := hP.sub (ws' := [(m0, .inr (4, [.ref m1, .ref m2, .int (nI bk), .ref m3, .ref m4, .ref m5, .ref m6, .int sd, .ref m7, .ref m8, .int cl, .int pc, .int op])), (m1, .inl (km1, 93, .inl nw)), (m3, .inl (km3, 3720, .inl bc)), (m7, .inl (km7, 1525, .inl vl))]) [0, 1, 3, 7] rfl
    have hKc := hK.sub (tys' := [(km1, .int), (km3, .int), (km7, .int)]) [0, 2, 6] rfl
    have hDc := hD.sub (ws' := [(m0, .inr (4, [.ref m1, .ref m2, .int (nI bk), .ref m3, .ref m4, .ref m5, .ref m6, .int sd, .ref m7, .ref m8, .int cl, .int pc, .int op])), (m1, .inl (km1, 93, .inl nw)), (m3, .inl (km3, 3720, .inl bc)), (m7, .inl (km7, 1525, .inl vl))]) [0, 1, 3, 7] (by decide) rfl
    have hFc := va_free (wc := [(m0, .inr (4, [.ref m1, .ref m2, .int (nI bk), .ref m3, .ref m4, .ref m5, .ref m6, .int sd, .ref m7, .ref m8, .int cl, .int pc, .int op])), (m1, .inl (km1, 93, .inl nw)), (m3, .inl (km3, 3720, .inl bc)), (m7, .inl (km7, 1525, .inl vl))]) hD hS hA [0, 1, 3, 7] rfl
    refine va_calli (va_runV (As := [.int (nI 5), .int a]) (rest := []) ⟨hx, hb, hml, hown, hts⟩ (c_X4_becomes l dC dI m0 m1 m3 m7 m2 m4 m5 m6 m8 km1 km3 km7 H.size bk sd cl pc op nw bc vl 5 a (by first | assumption | omega) (by first | assumption | omega) (by first | assumption | omega) (by refine ⟨fun q => ?_, fun q => ?_, fun q => ?_, fun q => ?_, fun q => ?_, fun q q2 => ?_⟩ <;> first | (exfalso; omega) | exact ⟨_, by omega, rfl⟩) (by first | assumption | omega)) (cwV 2 hts gX4_worth_X4_becomes rfl rfl rfl (by decide +kernel) ⟨Nat.le_of_ble_eq_true rfl, Nat.le_of_ble_eq_true rfl⟩) ⟨fun a U g mk q => by obtain ⟨q0, q1, qP, qK, qD⟩ := q; exact ⟨q0, q1, qP, va_K.moved (u := U) (U := U.calling g mk a) (Vm.Alike.refl U.vm) qK, qD⟩, va_recv hKc hPc (ci := 4) (q0 := 0) rfl rfl, fun U hU hW => ⟨rfl, by rw [hU], by rw [hU]; exact hPc, va_K.moved hW.alike hKc, hDc.weaken (fun _ _ _ _ => trivial)⟩⟩ rfl rfl hl.1 rfl (lv_room (Nat.le_of_ble_eq_true rfl)) dX4_worth_14 ⟨Nat.le_of_ble_eq_true rfl, Nat.le_of_ble_eq_true rfl⟩) hS (fun q _ h => hFc q h) hFc (fun r_2 u9 t9 H1 locs ht hvm hw hB hz1 hk1 hS => ?_)
    refine W.widen (k := 0) (n := 0) (Nat.le_of_ble_eq_true rfl) (Nat.le_of_ble_eq_true rfl) ?_
    obtain ⟨bk_3, bc_4, nw_5, vl_6, h_7, h_8, h_9, hP1, hK1, hD1⟩ := hB
    rw [ht] at hP1
    have hw := hw.symm
    subst hw
    obtain ⟨hP, hD⟩ := va_join (wr := [(m2, .inl (km2, 93, .inl ws)), (m4, .inl (km4, 186, .inl im)), (m5, .inl (km5, 2, .inl isd)), (m6, .inl (km6, 2, .inl kp)), (m8, .inl (km8, 24, .inl pl))]) (w1 := [(m0, .inr (4, [.ref m1, .ref m2, .int (nI bk_3), .ref m3, .ref m4, .ref m5, .ref m6, .int sd, .ref m7, .ref m8, .int cl, .int pc, .int op])), (m1, .inl (km1, 93, .inl nw_5)), (m3, .inl (km3, 3720, .inl bc_4)), (m7, .inl (km7, 1525, .inl vl_6))]) hP hD [0, 1, 3, 7] [2, 4, 5, 6, 8] rfl rfl (by decide) (by decide) hk1 hFc hP1 hD1
    clear hPc hDc hKc hFc hz1 hk1 ht hvm hP1 hK1 hD1 t9
    generalize H1 = H at hP hS ⊢
    have hP := hP.sub (ws' := [(m0, .inr (4, [.ref m1, .ref m2, .int (nI bk_3), .ref m3, .ref m4, .ref m5, .ref m6, .int sd, .ref m7, .ref m8, .int cl, .int pc, .int op])), (m1, .inl (km1, 93, .inl nw_5)), (m2, .inl (km2, 93, .inl ws)), (m3, .inl (km3, 3720, .inl bc_4)), (m4, .inl (km4, 186, .inl im)), (m5, .inl (km5, 2, .inl isd)), (m6, .inl (km6, 2, .inl kp)), (m7, .inl (km7, 1525, .inl vl_6)), (m8, .inl (km8, 24, .inl pl))]) [5, 6, 0, 7, 1, 2, 3, 8, 4] rfl
    have hD := hD.sub (ws' := [(m0, .inr (4, [.ref m1, .ref m2, .int (nI bk_3), .ref m3, .ref m4, .ref m5, .ref m6, .int sd, .ref m7, .ref m8, .int cl, .int pc, .int op])), (m1, .inl (km1, 93, .inl nw_5)), (m2, .inl (km2, 93, .inl ws)), (m3, .inl (km3, 3720, .inl bc_4)), (m4, .inl (km4, 186, .inl im)), (m5, .inl (km5, 2, .inl isd)), (m6, .inl (km6, 2, .inl kp)), (m7, .inl (km7, 1525, .inl vl_6)), (m8, .inl (km8, 24, .inl pl))]) [5, 6, 0, 7, 1, 2, 3, 8, 4] (by decide) rfl
    refine lv_goto (tgt := 22) hx hb dX4_worth_17 (by decide) ?_
    subst hQe
    have hP9 := hP.sub (ws' := [(m0, .inr (4, [.ref m1, .ref m2, .int (nI bk_3), .ref m3, .ref m4, .ref m5, .ref m6, .int sd, .ref m7, .ref m8, .int cl, .int pc, .int op])), (m1, .inl (km1, 93, .inl nw_5)), (m2, .inl (km2, 93, .inl ws)), (m3, .inl (km3, 3720, .inl bc_4)), (m4, .inl (km4, 186, .inl im)), (m5, .inl (km5, 2, .inl isd)), (m6, .inl (km6, 2, .inl kp)), (m7, .inl (km7, 1525, .inl vl_6)), (m8, .inl (km8, 24, .inl pl))]) [0, 1, 2, 3, 4, 5, 6, 7, 8] rfl
    have hD9 := hD.sub (ws' := [(m0, .inr (4, [.ref m1, .ref m2, .int (nI bk_3), .ref m3, .ref m4, .ref m5, .ref m6, .int sd, .ref m7, .ref m8, .int cl, .int pc, .int op])), (m1, .inl (km1, 93, .inl nw_5)), (m2, .inl (km2, 93, .inl ws)), (m3, .inl (km3, 3720, .inl bc_4)), (m4, .inl (km4, 186, .inl im)), (m5, .inl (km5, 2, .inl isd)), (m6, .inl (km6, 2, .inl kp)), (m7, .inl (km7, 1525, .inl vl_6)), (m8, .inl (km8, 24, .inl pl))]) [0, 1, 2, 3, 4, 5, 6, 7, 8] (by decide) rfl
    have hK9 := hK.sub (tys' := [(km1, .int), (km2, .int), (km3, .int), (km4, .int), (km5, .int), (km6, .boolean), (km7, .int), (km8, .int)]) [0, 1, 2, 3, 4, 5, 6, 7] rfl
    subst hAe
    exact W.iret (v := r_2) hx hb hr (fun t ht hW => ⟨⟨_, _, rfl, rfl, bk_3, sd, cl, pc, op, nw_5, ws, bc_4, im, isd, vl_6, pl, (by first | assumption | omega), (by first | assumption | omega), (by first | assumption | omega), (by first | assumption | omega), (by first | assumption | omega), by rw [ht]; exact hP9, va_K.moved hW.alike hK9, hD9⟩, hS.F ht⟩) hS.2.2 dX4_worth_22
set_option maxHeartbeats 4000000 in
set_option maxRecDepth 100000 in
theorem c_X4_spread (l : Launch) (dC : Nat → ClassId) (dI : Nat → Nat → Nat) (m0 m1 m2 m3 m4 m5 m6 m7 m8 : Nat) (km1 km2 km3 km4 km5 km6 km7 km8 : ClassId) (sz : Nat) (bk : Nat) (sd : Int32) (cl : Int32) (pc : Int32) (op : Int32) (nw : Nat → Int32) (ws : Nat → Int32) (bc : Nat → Int32) (im : Nat → Int32) (isd : Nat → Int32) (kp : Nat → Int32) (vl : Nat → Int32) (pl : Nat → Int32) (a : Int32) (i0 : bk ≤ 40) (i1 : okN nw) (i2 : okB 40 bc) (i3 : okB 2 im) (i4 : bdA 60 24 pl) : Met l yX4_spread wsX4_spread ({ frames := 8, cells := 0, slots := 0, locals := 184 }) (va_Pc [.ref m0, .int a] (fun U => U.heap.size = sz ∧ va_P (dC, dI) vwCl [(m0, .inr (4, [.ref m1, .ref m2, .int (nI bk), .ref m3, .ref m4, .ref m5, .ref m6, .int sd, .ref m7, .ref m8, .int cl, .int pc, .int op])), (m1, .inl (km1, 93, .inl nw)), (m2, .inl (km2, 93, .inl ws)), (m3, .inl (km3, 3720, .inl bc)), (m4, .inl (km4, 186, .inl im)), (m5, .inl (km5, 2, .inl isd)), (m6, .inl (km6, 2, .inl kp)), (m7, .inl (km7, 1525, .inl vl)), (m8, .inl (km8, 24, .inl pl))] U.heap ∧ va_K (dC, dI) vwCl [(km1, .int), (km2, .int), (km3, .int), (km4, .int), (km5, .int), (km6, .boolean), (km7, .int), (km8, .int)] U ∧ va_D (fun _ => True) [(m0, .inr (4, [.ref m1, .ref m2, .int (nI bk), .ref m3, .ref m4, .ref m5, .ref m6, .int sd, .ref m7, .ref m8, .int cl, .int pc, .int op])), (m1, .inl (km1, 93, .inl nw)), (m2, .inl (km2, 93, .inl ws)), (m3, .inl (km3, 3720, .inl bc)), (m4, .inl (km4, 186, .inl im)), (m5, .inl (km5, 2, .inl isd)), (m6, .inl (km6, 2, .inl kp)), (m7, .inl (km7, 1525, .inl vl)), (m8, .inl (km8, 24, .inl pl))])) (va_Qi (fun (r u : Int32) => u = r) (fun r t => ∃ (bk' : Nat) (sd' : Int32) (cl' : Int32) (pc' : Int32) (op' : Int32) (nw' : Nat → Int32) (ws' : Nat → Int32) (bc' : Nat → Int32) (im' : Nat → Int32) (isd' : Nat → Int32) (vl' : Nat → Int32) (pl' : Nat → Int32), bk' ≤ 40 ∧ okN nw' ∧ okB 40 bc' ∧ okB 2 im' ∧ bdA 60 24 pl' ∧ va_P (dC, dI) vwCl [(m0, .inr (4, [.ref m1, .ref m2, .int (nI bk'), .ref m3, .ref m4, .ref m5, .ref m6, .int sd', .ref m7, .ref m8, .int cl', .int pc', .int op'])), (m1, .inl (km1, 93, .inl nw')), (m2, .inl (km2, 93, .inl ws')), (m3, .inl (km3, 3720, .inl bc')), (m4, .inl (km4, 186, .inl im')), (m5, .inl (km5, 2, .inl isd')), (m6, .inl (km6, 2, .inl kp)), (m7, .inl (km7, 1525, .inl vl')), (m8, .inl (km8, 24, .inl pl'))] t.heap ∧ va_K (dC, dI) vwCl [(km1, .int), (km2, .int), (km3, .int), (km4, .int), (km5, .int), (km6, .boolean), (km7, .int), (km8, .int)] t ∧ va_D (va_A [(m0, .inr (4, [.ref m1, .ref m2, .int (nI bk), .ref m3, .ref m4, .ref m5, .ref m6, .int sd, .ref m7, .ref m8, .int cl, .int pc, .int op])), (m1, .inl (km1, 93, .inl nw)), (m2, .inl (km2, 93, .inl ws)), (m3, .inl (km3, 3720, .inl bc)), (m4, .inl (km4, 186, .inl im)), (m5, .inl (km5, 2, .inl isd)), (m6, .inl (km6, 2, .inl kp)), (m7, .inl (km7, 1525, .inl vl)), (m8, .inl (km8, 24, .inl pl))] sz) [(m0, .inr (4, [.ref m1, .ref m2, .int (nI bk'), .ref m3, .ref m4, .ref m5, .ref m6, .int sd', .ref m7, .ref m8, .int cl', .int pc', .int op'])), (m1, .inl (km1, 93, .inl nw')), (m2, .inl (km2, 93, .inl ws')), (m3, .inl (km3, 3720, .inl bc')), (m4, .inl (km4, 186, .inl im')), (m5, .inl (km5, 2, .inl isd')), (m6, .inl (km6, 2, .inl kp)), (m7, .inl (km7, 1525, .inl vl')), (m8, .inl (km8, 24, .inl pl'))]) (va_A [(m0, .inr (4, [.ref m1, .ref m2, .int (nI bk), .ref m3, .ref m4, .ref m5, .ref m6, .int sd, .ref m7, .ref m8, .int cl, .int pc, .int op])), (m1, .inl (km1, 93, .inl nw)), (m2, .inl (km2, 93, .inl ws)), (m3, .inl (km3, 3720, .inl bc)), (m4, .inl (km4, 186, .inl im)), (m5, .inl (km5, 2, .inl isd)), (m6, .inl (km6, 2, .inl kp)), (m7, .inl (km7, 1525, .inl vl)), (m8, .inl (km8, 24, .inl pl))] sz)) 0 0 (va_A [(m0, .inr (4, [.ref m1, .ref m2, .int (nI bk), .ref m3, .ref m4, .ref m5, .ref m6, .int sd, .ref m7, .ref m8, .int cl, .int pc, .int op])), (m1, .inl (km1, 93, .inl nw)), (m2, .inl (km2, 93, .inl ws)), (m3, .inl (km3, 3720, .inl bc)), (m4, .inl (km4, 186, .inl im)), (m5, .inl (km5, 2, .inl isd)), (m6, .inl (km6, 2, .inl kp)), (m7, .inl (km7, 1525, .inl vl)), (m8, .inl (km8, 24, .inl pl))] sz) := by
  refine Met.ofW (cc := cX4_spread) (maxL := 2) (ret := (some .int)) (by decide) rfl ?_
  intro p e s m args below meth c s₁ B hml hv
  obtain ⟨rfl, hsz, hP, hK, hD0⟩ := hv
  have hx := B.exec
  have hb := B.bytes
  have hr := B.returns
  have hts := atoms_spec (ws := wsX4_spread) B.pre
  have hown : s.vm.findClass RX4 = some m.cls := findClass_of_methodNamed B.named
  have hlocks := B.notSynchronized
  have inX4 : ∀ w ∈ wsX40, w ∈ wsX4_spread := fun _ h => List.mem_cons_of_mem _ (List.mem_append_right _ h)
  subst hsz
  have hD := hD0.self (sz := s.heap.size)
  generalize hAe : va_A [(m0, .inr (4, [.ref m1, .ref m2, .int (nI bk), .ref m3, .ref m4, .ref m5, .ref m6, .int sd, .ref m7, .ref m8, .int cl, .int pc, .int op])), (m1, .inl (km1, 93, .inl nw)), (m2, .inl (km2, 93, .inl ws)), (m3, .inl (km3, 3720, .inl bc)), (m4, .inl (km4, 186, .inl im)), (m5, .inl (km5, 2, .inl isd)), (m6, .inl (km6, 2, .inl kp)), (m7, .inl (km7, 1525, .inl vl)), (m8, .inl (km8, 24, .inl pl))] s.heap.size = A at hD ⊢
  have hA : ∀ q : Nat, s.heap.size ≤ q → A q := fun q h => by rw [← hAe]; exact Or.inr h
  have hS : va_S A s.heap s.heap [] := va_S.rf
  have hl := lv_entry ([.ref m0, .int a]) (n := 2) (Nat.le_of_ble_eq_true rfl)
  rw [lg_entry_eq]
  generalize (lg_sl ([.ref m0, .int a]) ++ List.replicate (2 - (lg_sl ([.ref m0, .int a])).length) Slot.unset).toArray = ls at hl ⊢
  generalize hQe : MQ below _ _ s 0 0 _ = Q
  generalize ([.ref m0, .int a] : List Value).toArray = args at hts hQe ⊢
  have hl : lv_has ls 2 [(0, .ref m0), (1, .int a)] := hl
  refine lv_iload_n hx hb dX4_spread_0 rfl (lv_at hl 1 rfl) ?_
  refine lv_iconst (v := nI 0) hx hb dX4_spread_1 (by decide) ?_
  refine lv_bipush (v := nI 50) hx hb dX4_spread_2 (by decide) ?_
  refine va_calli (va_runS (As := [.int a, .int (nI 0), .int (nI 50)]) (rest := []) ⟨hx, hb, hml, hown, hts⟩ (c_X4_in l dC dI   a (nI 0) (nI 50)  ) (va_cwS 3 hts gX4_spread_X4_in rfl rfl rfl (by decide +kernel) ⟨Nat.le_of_ble_eq_true rfl, Nat.le_of_ble_eq_true rfl⟩) ⟨fun a U g mk q => q, fun U hU hW => ⟨rfl, trivial⟩⟩ rfl rfl hl.1 rfl (lv_room (Nat.le_of_ble_eq_true rfl)) dX4_spread_4 ⟨Nat.le_of_ble_eq_true rfl, Nat.le_of_ble_eq_true rfl⟩) hS (fun q _ h => h.elim) (fun q h => h.elim) (fun r_1 u9 t9 H1 locs ht hvm hw hB hz1 hk1 hS => ?_)
  refine W.widen (k := 0) (n := 0) (Nat.le_of_ble_eq_true rfl) (Nat.le_of_ble_eq_true rfl) ?_
  have hP := hP.kept (H1 := H1) (fun k q hk => hk1 q.1 (hP k q hk).lt (fun h => h))
  clear hz1 hk1 hB ht hvm t9
  generalize H1 = H at hP hS ⊢
  have hP : va_P (dC, dI) vwCl [(m0, .inr (4, [.ref m1, .ref m2, .int (nI bk), .ref m3, .ref m4, .ref m5, .ref m6, .int sd, .ref m7, .ref m8, .int cl, .int pc, .int op])), (m1, .inl (km1, 93, .inl nw)), (m2, .inl (km2, 93, .inl ws)), (m3, .inl (km3, 3720, .inl bc)), (m4, .inl (km4, 186, .inl im)), (m5, .inl (km5, 2, .inl isd)), (m6, .inl (km6, 2, .inl kp)), (m7, .inl (km7, 1525, .inl vl)), (m8, .inl (km8, 24, .inl pl))] H := hP
  have wr_1 := hw
  clear hw
  refine lv_if_eq (tgt := 20) hx hb dX4_spread_7 (by decide) (fun c_7 => ?_) (fun c_7 => ?_)
  · have nc_7 := b_0 wr_1 c_7
    refine lv_ldc (own := RX4) (v := (-1000000002)) hx hb hown (hts (.constant RX4 110 (-1000000002)) (List.mem_of_getElem? (i := 1) rfl)) dX4_spread_20 ?_
    subst hQe
    have hP9 := hP.sub (ws' := [(m0, .inr (4, [.ref m1, .ref m2, .int (nI bk), .ref m3, .ref m4, .ref m5, .ref m6, .int sd, .ref m7, .ref m8, .int cl, .int pc, .int op])), (m1, .inl (km1, 93, .inl nw)), (m2, .inl (km2, 93, .inl ws)), (m3, .inl (km3, 3720, .inl bc)), (m4, .inl (km4, 186, .inl im)), (m5, .inl (km5, 2, .inl isd)), (m6, .inl (km6, 2, .inl kp)), (m7, .inl (km7, 1525, .inl vl)), (m8, .inl (km8, 24, .inl pl))]) [0, 1, 2, 3, 4, 5, 6, 7, 8] rfl
    have hD9 := hD.sub (ws' := [(m0, .inr (4, [.ref m1, .ref m2, .int (nI bk), .ref m3, .ref m4, .ref m5, .ref m6, .int sd, .ref m7, .ref m8, .int cl, .int pc, .int op])), (m1, .inl (km1, 93, .inl nw)), (m2, .inl (km2, 93, .inl ws)), (m3, .inl (km3, 3720, .inl bc)), (m4, .inl (km4, 186, .inl im)), (m5, .inl (km5, 2, .inl isd)), (m6, .inl (km6, 2, .inl kp)), (m7, .inl (km7, 1525, .inl vl)), (m8, .inl (km8, 24, .inl pl))]) [0, 1, 2, 3, 4, 5, 6, 7, 8] (by decide) rfl
    have hK9 := hK.sub (tys' := [(km1, .int), (km2, .int), (km3, .int), (km4, .int), (km5, .int), (km6, .boolean), (km7, .int), (km8, .int)]) [0, 1, 2, 3, 4, 5, 6, 7] rfl
    subst hAe
    exact W.iret (v := ((-1000000002))) hx hb hr (fun t ht hW => ⟨⟨_, _, rfl, rfl, bk, sd, cl, pc, op, nw, ws, bc, im, isd, vl, pl, (by first | assumption | omega), (by first | assumption | omega), (by first | assumption | omega), (by first | assumption | omega), (by first | assumption | omega), by rw [ht]; exact hP9, va_K.moved hW.alike hK9, hD9⟩, hS.F ht⟩) hS.2.2 dX4_spread_22
  · obtain ⟨j_2, hj_2, rfl⟩ := rg_0 (by decide) (b_1 wr_1 c_7)
    refine lv_aload_n hx hb dX4_spread_10 rfl (lv_at hl 0 rfl) ?_
    refine lv_bipush (v := nI 6) hx hb dX4_spread_11 (by decide) ?_
    refine lv_iload_n hx hb dX4_spread_13 rfl (lv_at hl 1 rfl) ?_
    have hPc := hP.sub (ws' := [(m0, .inr (4, [.ref m1, .ref m2, .int (nI bk), .ref m3, .ref m4, .ref m5, .ref m6, .int sd, .ref m7, .ref m8, .int cl, .int pc, .int op])), (m1, .inl (km1, 93, .inl nw)), (m3, .inl (km3, 3720, .inl bc)), (m7, .inl (km7, 1525, .inl vl))]) [0, 1, 3, 7] rfl
    have hKc := hK.sub (tys' := [(km1, .int), (km3, .int), (km7, .int)]) [0, 2, 6] rfl
    have hDc := hD.sub (ws' := [(m0, .inr (4, [.ref m1, .ref m2, .int (nI bk), .ref m3, .ref m4, .ref m5, .ref m6, .int sd, .ref m7, .ref m8, .int cl, .int pc, .int op])), (m1, .inl (km1, 93, .inl nw)), (m3, .inl (km3, 3720, .inl bc)), (m7, .inl (km7, 1525, .inl vl))]) [0, 1, 3, 7] (by decide) rfl
    have hFc := va_free (wc := [(m0, .inr (4, [.ref m1, .ref m2, .int (nI bk), .ref m3, .ref m4, .ref m5, .ref m6, .int sd, .ref m7, .ref m8, .int cl, .int pc, .int op])), (m1, .inl (km1, 93, .inl nw)), (m3, .inl (km3, 3720, .inl bc)), (m7, .inl (km7, 1525, .inl vl))]) hD hS hA [0, 1, 3, 7] rfl
    refine va_calli (va_runV (As := [.int (nI 6), .int (nI j_2)]) (rest := []) ⟨hx, hb, hml, hown, hts⟩ (c_X4_becomes l dC dI m0 m1 m3 m7 m2 m4 m5 m6 m8 km1 km3 km7 H.size bk sd cl pc op nw bc vl 6 (nI j_2) (by first | assumption | omega) (by first | assumption | omega) (by first | assumption | omega) (by refine ⟨fun q => ?_, fun q => ?_, fun q => ?_, fun q => ?_, fun q => ?_, fun q q2 => ?_⟩ <;> first | (exfalso; omega) | exact ⟨_, by omega, rfl⟩) (by first | assumption | omega)) (cwV 2 hts gX4_spread_X4_becomes rfl rfl rfl (by decide +kernel) ⟨Nat.le_of_ble_eq_true rfl, Nat.le_of_ble_eq_true rfl⟩) ⟨fun a U g mk q => by obtain ⟨q0, q1, qP, qK, qD⟩ := q; exact ⟨q0, q1, qP, va_K.moved (u := U) (U := U.calling g mk a) (Vm.Alike.refl U.vm) qK, qD⟩, va_recv hKc hPc (ci := 4) (q0 := 0) rfl rfl, fun U hU hW => ⟨rfl, by rw [hU], by rw [hU]; exact hPc, va_K.moved hW.alike hKc, hDc.weaken (fun _ _ _ _ => trivial)⟩⟩ rfl rfl hl.1 rfl (lv_room (Nat.le_of_ble_eq_true rfl)) dX4_spread_14 ⟨Nat.le_of_ble_eq_true rfl, Nat.le_of_ble_eq_true rfl⟩) hS (fun q _ h => hFc q h) hFc (fun r_3 u9 t9 H1 locs ht hvm hw hB hz1 hk1 hS => ?_)
    refine W.widen (k := 0) (n := 0) (Nat.le_of_ble_eq_true rfl) (Nat.le_of_ble_eq_true rfl) ?_
    obtain ⟨bk_4, bc_5, nw_6, vl_7, h_8, h_9, h_10, hP1, hK1, hD1⟩ := hB
    rw [ht] at hP1
    have hw := hw.symm
    subst hw
    obtain ⟨hP, hD⟩ := va_join (wr := [(m2, .inl (km2, 93, .inl ws)), (m4, .inl (km4, 186, .inl im)), (m5, .inl (km5, 2, .inl isd)), (m6, .inl (km6, 2, .inl kp)), (m8, .inl (km8, 24, .inl pl))]) (w1 := [(m0, .inr (4, [.ref m1, .ref m2, .int (nI bk_4), .ref m3, .ref m4, .ref m5, .ref m6, .int sd, .ref m7, .ref m8, .int cl, .int pc, .int op])), (m1, .inl (km1, 93, .inl nw_6)), (m3, .inl (km3, 3720, .inl bc_5)), (m7, .inl (km7, 1525, .inl vl_7))]) hP hD [0, 1, 3, 7] [2, 4, 5, 6, 8] rfl rfl (by decide) (by decide) hk1 hFc hP1 hD1
    clear hPc hDc hKc hFc hz1 hk1 ht hvm hP1 hK1 hD1 t9
    generalize H1 = H at hP hS ⊢
    have hP := hP.sub (ws' := [(m0, .inr (4, [.ref m1, .ref m2, .int (nI bk_4), .ref m3, .ref m4, .ref m5, .ref m6, .int sd, .ref m7, .ref m8, .int cl, .int pc, .int op])), (m1, .inl (km1, 93, .inl nw_6)), (m2, .inl (km2, 93, .inl ws)), (m3, .inl (km3, 3720, .inl bc_5)), (m4, .inl (km4, 186, .inl im)), (m5, .inl (km5, 2, .inl isd)), (m6, .inl (km6, 2, .inl kp)), (m7, .inl (km7, 1525, .inl vl_7)), (m8, .inl (km8, 24, .inl pl))]) [5, 6, 0, 7, 1, 2, 3, 8, 4] rfl
    have hD := hD.sub (ws' := [(m0, .inr (4, [.ref m1, .ref m2, .int (nI bk_4), .ref m3, .ref m4, .ref m5, .ref m6, .int sd, .ref m7, .ref m8, .int cl, .int pc, .int op])), (m1, .inl (km1, 93, .inl nw_6)), (m2, .inl (km2, 93, .inl ws)), (m3, .inl (km3, 3720, .inl bc_5)), (m4, .inl (km4, 186, .inl im)), (m5, .inl (km5, 2, .inl isd)), (m6, .inl (km6, 2, .inl kp)), (m7, .inl (km7, 1525, .inl vl_7)), (m8, .inl (km8, 24, .inl pl))]) [5, 6, 0, 7, 1, 2, 3, 8, 4] (by decide) rfl
    refine lv_goto (tgt := 22) hx hb dX4_spread_17 (by decide) ?_
    subst hQe
    have hP9 := hP.sub (ws' := [(m0, .inr (4, [.ref m1, .ref m2, .int (nI bk_4), .ref m3, .ref m4, .ref m5, .ref m6, .int sd, .ref m7, .ref m8, .int cl, .int pc, .int op])), (m1, .inl (km1, 93, .inl nw_6)), (m2, .inl (km2, 93, .inl ws)), (m3, .inl (km3, 3720, .inl bc_5)), (m4, .inl (km4, 186, .inl im)), (m5, .inl (km5, 2, .inl isd)), (m6, .inl (km6, 2, .inl kp)), (m7, .inl (km7, 1525, .inl vl_7)), (m8, .inl (km8, 24, .inl pl))]) [0, 1, 2, 3, 4, 5, 6, 7, 8] rfl
    have hD9 := hD.sub (ws' := [(m0, .inr (4, [.ref m1, .ref m2, .int (nI bk_4), .ref m3, .ref m4, .ref m5, .ref m6, .int sd, .ref m7, .ref m8, .int cl, .int pc, .int op])), (m1, .inl (km1, 93, .inl nw_6)), (m2, .inl (km2, 93, .inl ws)), (m3, .inl (km3, 3720, .inl bc_5)), (m4, .inl (km4, 186, .inl im)), (m5, .inl (km5, 2, .inl isd)), (m6, .inl (km6, 2, .inl kp)), (m7, .inl (km7, 1525, .inl vl_7)), (m8, .inl (km8, 24, .inl pl))]) [0, 1, 2, 3, 4, 5, 6, 7, 8] (by decide) rfl
    have hK9 := hK.sub (tys' := [(km1, .int), (km2, .int), (km3, .int), (km4, .int), (km5, .int), (km6, .boolean), (km7, .int), (km8, .int)]) [0, 1, 2, 3, 4, 5, 6, 7] rfl
    subst hAe
    exact W.iret (v := r_3) hx hb hr (fun t ht hW => ⟨⟨_, _, rfl, rfl, bk_4, sd, cl, pc, op, nw_6, ws, bc_5, im, isd, vl_7, pl, (by first | assumption | omega), (by first | assumption | omega), (by first | assumption | omega), (by first | assumption | omega), (by first | assumption | omega), by rw [ht]; exact hP9, va_K.moved hW.alike hK9, hD9⟩, hS.F ht⟩) hS.2.2 dX4_spread_22
