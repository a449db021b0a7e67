set_option maxHeartbeats 4000000 in
set_option maxRecDepth 100000 in
theorem c_X4_law (l : Launch) (dC : Nat → ClassId) (dI : Nat → Nat → Nat) (m0 m1 m2 m3 m4 m5 m6 m7 m8 : Nat) (km1 km2 km3 km4 km5 km6 km7 km8 : ClassId) (sz : Nat) (bk : Nat) (sd : Int32) (cl : Int32) (pc : Int32) (op : Int32) (nw : Nat → Int32) (ws : Nat → Int32) (bc : Nat → Int32) (im : Nat → Int32) (isd : Nat → Int32) (kp : Nat → Int32) (vl : Nat → Int32) (pl : Nat → Int32) (f : Int32) (u : Int32) (kd : Int32) (a : Int32) (b : Int32) (i0 : bk ≤ 40) (i1 : okN nw) (i2 : okB 40 bc) (i3 : okB 2 im) (i4 : bdA 60 24 pl) : Met l yX4_law wsX4_law ({ frames := 7, cells := 0, slots := 0, locals := 162 }) (va_Pc [.ref m0, .int f, .int u, .int kd, .int a, .int b] (fun U => U.heap.size = sz ∧ va_P (dC, dI) vwCl [(m0, .inr (4, [.ref m1, .ref m2, .int (nI bk), .ref m3, .ref m4, .ref m5, .ref m6, .int sd, .ref m7, .ref m8, .int cl, .int pc, .int op])), (m1, .inl (km1, 93, .inl nw)), (m2, .inl (km2, 93, .inl ws)), (m3, .inl (km3, 3720, .inl bc)), (m4, .inl (km4, 186, .inl im)), (m5, .inl (km5, 2, .inl isd)), (m6, .inl (km6, 2, .inl kp)), (m7, .inl (km7, 1525, .inl vl)), (m8, .inl (km8, 24, .inl pl))] U.heap ∧ va_K (dC, dI) vwCl [(km1, .int), (km2, .int), (km3, .int), (km4, .int), (km5, .int), (km6, .boolean), (km7, .int), (km8, .int)] U ∧ va_D (fun _ => True) [(m0, .inr (4, [.ref m1, .ref m2, .int (nI bk), .ref m3, .ref m4, .ref m5, .ref m6, .int sd, .ref m7, .ref m8, .int cl, .int pc, .int op])), (m1, .inl (km1, 93, .inl nw)), (m2, .inl (km2, 93, .inl ws)), (m3, .inl (km3, 3720, .inl bc)), (m4, .inl (km4, 186, .inl im)), (m5, .inl (km5, 2, .inl isd)), (m6, .inl (km6, 2, .inl kp)), (m7, .inl (km7, 1525, .inl vl)), (m8, .inl (km8, 24, .inl pl))])) (va_Qi (fun (r u : Int32) => u = r) (fun r t => ∃ (bk' : Nat) (sd' : Int32) (cl' : Int32) (pc' : Int32) (op' : Int32) (nw' : Nat → Int32) (ws' : Nat → Int32) (bc' : Nat → Int32) (im' : Nat → Int32) (isd' : Nat → Int32) (vl' : Nat → Int32) (pl' : Nat → Int32), bk' ≤ 40 ∧ okN nw' ∧ okB 40 bc' ∧ okB 2 im' ∧ bdA 60 24 pl' ∧ va_P (dC, dI) vwCl [(m0, .inr (4, [.ref m1, .ref m2, .int (nI bk'), .ref m3, .ref m4, .ref m5, .ref m6, .int sd', .ref m7, .ref m8, .int cl', .int pc', .int op'])), (m1, .inl (km1, 93, .inl nw')), (m2, .inl (km2, 93, .inl ws')), (m3, .inl (km3, 3720, .inl bc')), (m4, .inl (km4, 186, .inl im')), (m5, .inl (km5, 2, .inl isd')), (m6, .inl (km6, 2, .inl kp)), (m7, .inl (km7, 1525, .inl vl')), (m8, .inl (km8, 24, .inl pl'))] t.heap ∧ va_K (dC, dI) vwCl [(km1, .int), (km2, .int), (km3, .int), (km4, .int), (km5, .int), (km6, .boolean), (km7, .int), (km8, .int)] t ∧ va_D (va_A [(m0, .inr (4, [.ref m1, .ref m2, .int (nI bk), .ref m3, .ref m4, .ref m5, .ref m6, .int sd, .ref m7, .ref m8, .int cl, .int pc, .int op])), (m1, .inl (km1, 93, .inl nw)), (m2, .inl (km2, 93, .inl ws)), (m3, .inl (km3, 3720, .inl bc)), (m4, .inl (km4, 186, .inl im)), (m5, .inl (km5, 2, .inl isd)), (m6, .inl (km6, 2, .inl kp)), (m7, .inl (km7, 1525, .inl vl)), (m8, .inl (km8, 24, .inl pl))] sz) [(m0, .inr (4, [.ref m1, .ref m2, .int (nI bk'), .ref m3, .ref m4, .ref m5, .ref m6, .int sd', .ref m7, .ref m8, .int cl', .int pc', .int op'])), (m1, .inl (km1, 93, .inl nw')), (m2, .inl (km2, 93, .inl ws')), (m3, .inl (km3, 3720, .inl bc')), (m4, .inl (km4, 186, .inl im')), (m5, .inl (km5, 2, .inl isd')), (m6, .inl (km6, 2, .inl kp)), (m7, .inl (km7, 1525, .inl vl')), (m8, .inl (km8, 24, .inl pl'))]) (va_A [(m0, .inr (4, [.ref m1, .ref m2, .int (nI bk), .ref m3, .ref m4, .ref m5, .ref m6, .int sd, .ref m7, .ref m8, .int cl, .int pc, .int op])), (m1, .inl (km1, 93, .inl nw)), (m2, .inl (km2, 93, .inl ws)), (m3, .inl (km3, 3720, .inl bc)), (m4, .inl (km4, 186, .inl im)), (m5, .inl (km5, 2, .inl isd)), (m6, .inl (km6, 2, .inl kp)), (m7, .inl (km7, 1525, .inl vl)), (m8, .inl (km8, 24, .inl pl))] sz)) 0 0 (va_A [(m0, .inr (4, [.ref m1, .ref m2, .int (nI bk), .ref m3, .ref m4, .ref m5, .ref m6, .int sd, .ref m7, .ref m8, .int cl, .int pc, .int op])), (m1, .inl (km1, 93, .inl nw)), (m2, .inl (km2, 93, .inl ws)), (m3, .inl (km3, 3720, .inl bc)), (m4, .inl (km4, 186, .inl im)), (m5, .inl (km5, 2, .inl isd)), (m6, .inl (km6, 2, .inl kp)), (m7, .inl (km7, 1525, .inl vl)), (m8, .inl (km8, 24, .inl pl))] sz) := by
  refine Met.ofW (cc := cX4_law) (maxL := 6) (ret := (some .int)) (by decide) rfl ?_
  intro p e s m args below meth c s₁ B hml hv
  obtain ⟨rfl, hsz, hP, hK, hD0⟩ := hv
  have hx := B.exec
  have hb := B.bytes
  have hr := B.returns
  have hts := atoms_spec (ws := wsX4_law) B.pre
  have hown : s.vm.findClass RX4 = some m.cls := findClass_of_methodNamed B.named
  have hlocks := B.notSynchronized
  have inX4 : ∀ w ∈ wsX40, w ∈ wsX4_law := fun _ h => List.mem_cons_of_mem _ (List.mem_append_right _ h)
  subst hsz
  have hD := hD0.self (sz := s.heap.size)
  generalize hAe : va_A [(m0, .inr (4, [.ref m1, .ref m2, .int (nI bk), .ref m3, .ref m4, .ref m5, .ref m6, .int sd, .ref m7, .ref m8, .int cl, .int pc, .int op])), (m1, .inl (km1, 93, .inl nw)), (m2, .inl (km2, 93, .inl ws)), (m3, .inl (km3, 3720, .inl bc)), (m4, .inl (km4, 186, .inl im)), (m5, .inl (km5, 2, .inl isd)), (m6, .inl (km6, 2, .inl kp)), (m7, .inl (km7, 1525, .inl vl)), (m8, .inl (km8, 24, .inl pl))] s.heap.size = A at hD ⊢
  have hA : ∀ q : Nat, s.heap.size ≤ q → A q := fun q h => by rw [← hAe]; exact Or.inr h
  have hS : va_S A s.heap s.heap [] := va_S.rf
  have hl := lv_entry ([.ref m0, .int f, .int u, .int kd, .int a, .int b]) (n := 6) (Nat.le_of_ble_eq_true rfl)
  rw [lg_entry_eq]
  generalize (lg_sl ([.ref m0, .int f, .int u, .int kd, .int a, .int b]) ++ List.replicate (6 - (lg_sl ([.ref m0, .int f, .int u, .int kd, .int a, .int b])).length) Slot.unset).toArray = ls at hl ⊢
  generalize hQe : MQ below _ _ s 0 0 _ = Q
  generalize ([.ref m0, .int f, .int u, .int kd, .int a, .int b] : List Value).toArray = args at hts hQe ⊢
  have hl : lv_has ls 6 [(0, .ref m0), (1, .int f), (2, .int u), (3, .int kd), (4, .int a), (5, .int b)] := hl
  refine lv_iload_n hx hb dX4_law_0 rfl (lv_at hl 1 rfl) ?_
  refine va_calli (va_runS (As := [.int f]) (rest := []) ⟨hx, hb, hml, hown, hts⟩ (c_X4_isHour l dC dI   f  ) (va_cwS 1 hts gX4_law_X4_isHour rfl rfl rfl (by decide +kernel) ⟨Nat.le_of_ble_eq_true rfl, Nat.le_of_ble_eq_true rfl⟩) ⟨fun a U g mk q => q, fun U hU hW => ⟨rfl, trivial⟩⟩ rfl rfl hl.1 rfl (lv_room (Nat.le_of_ble_eq_true rfl)) dX4_law_1 ⟨Nat.le_of_ble_eq_true rfl, Nat.le_of_ble_eq_true rfl⟩) hS (fun q _ h => h.elim) (fun q h => h.elim) (fun r_1 u9 t9 H1 locs ht hvm hw hB hz1 hk1 hS => ?_)
  refine W.widen (k := 0) (n := 0) (Nat.le_of_ble_eq_true rfl) (Nat.le_of_ble_eq_true rfl) ?_
  have hP := hP.kept (H1 := H1) (fun k q hk => hk1 q.1 (hP k q hk).lt (fun h => h))
  clear hz1 hk1 hB ht hvm t9
  generalize H1 = H at hP hS ⊢
  have hP : va_P (dC, dI) vwCl [(m0, .inr (4, [.ref m1, .ref m2, .int (nI bk), .ref m3, .ref m4, .ref m5, .ref m6, .int sd, .ref m7, .ref m8, .int cl, .int pc, .int op])), (m1, .inl (km1, 93, .inl nw)), (m2, .inl (km2, 93, .inl ws)), (m3, .inl (km3, 3720, .inl bc)), (m4, .inl (km4, 186, .inl im)), (m5, .inl (km5, 2, .inl isd)), (m6, .inl (km6, 2, .inl kp)), (m7, .inl (km7, 1525, .inl vl)), (m8, .inl (km8, 24, .inl pl))] H := hP
  have wr_1 := hw
  clear hw
  refine lv_if_eq (tgt := 14) hx hb dX4_law_4 (by decide) (fun c_4 => ?_) (fun c_4 => ?_)
  · have nc_4 := b_0 wr_1 c_4
    refine lv_ldc (own := RX4) (v := (-1000000001)) hx hb hown (hts (.constant RX4 109 (-1000000001)) (List.mem_of_getElem? (i := 1) rfl)) dX4_law_14 ?_
    subst hQe
    have hP9 := hP.sub (ws' := [(m0, .inr (4, [.ref m1, .ref m2, .int (nI bk), .ref m3, .ref m4, .ref m5, .ref m6, .int sd, .ref m7, .ref m8, .int cl, .int pc, .int op])), (m1, .inl (km1, 93, .inl nw)), (m2, .inl (km2, 93, .inl ws)), (m3, .inl (km3, 3720, .inl bc)), (m4, .inl (km4, 186, .inl im)), (m5, .inl (km5, 2, .inl isd)), (m6, .inl (km6, 2, .inl kp)), (m7, .inl (km7, 1525, .inl vl)), (m8, .inl (km8, 24, .inl pl))]) [0, 1, 2, 3, 4, 5, 6, 7, 8] rfl
    have hD9 := hD.sub (ws' := [(m0, .inr (4, [.ref m1, .ref m2, .int (nI bk), .ref m3, .ref m4, .ref m5, .ref m6, .int sd, .ref m7, .ref m8, .int cl, .int pc, .int op])), (m1, .inl (km1, 93, .inl nw)), (m2, .inl (km2, 93, .inl ws)), (m3, .inl (km3, 3720, .inl bc)), (m4, .inl (km4, 186, .inl im)), (m5, .inl (km5, 2, .inl isd)), (m6, .inl (km6, 2, .inl kp)), (m7, .inl (km7, 1525, .inl vl)), (m8, .inl (km8, 24, .inl pl))]) [0, 1, 2, 3, 4, 5, 6, 7, 8] (by decide) rfl
    have hK9 := hK.sub (tys' := [(km1, .int), (km2, .int), (km3, .int), (km4, .int), (km5, .int), (km6, .boolean), (km7, .int), (km8, .int)]) [0, 1, 2, 3, 4, 5, 6, 7] rfl
    subst hAe
    exact W.iret (v := ((-1000000001))) hx hb hr (fun t ht hW => ⟨⟨_, _, rfl, rfl, bk, sd, cl, pc, op, nw, ws, bc, im, isd, vl, pl, (by first | assumption | omega), (by first | assumption | omega), (by first | assumption | omega), (by first | assumption | omega), (by first | assumption | omega), by rw [ht]; exact hP9, va_K.moved hW.alike hK9, hD9⟩, hS.F ht⟩) hS.2.2 dX4_law_16
  · obtain ⟨j_2, hj_2, rfl⟩ := b_1 wr_1 c_4
    refine lv_iload_n hx hb dX4_law_7 rfl (lv_at hl 2 rfl) ?_
    refine va_calli (va_runS (As := [.int u]) (rest := []) ⟨hx, hb, hml, hown, hts⟩ (c_X4_isHour l dC dI   u  ) (va_cwS 1 hts gX4_law_X4_isHour rfl rfl rfl (by decide +kernel) ⟨Nat.le_of_ble_eq_true rfl, Nat.le_of_ble_eq_true rfl⟩) ⟨fun a U g mk q => q, fun U hU hW => ⟨rfl, trivial⟩⟩ rfl rfl hl.1 rfl (lv_room (Nat.le_of_ble_eq_true rfl)) dX4_law_8 ⟨Nat.le_of_ble_eq_true rfl, Nat.le_of_ble_eq_true rfl⟩) hS (fun q _ h => h.elim) (fun q h => h.elim) (fun r_3 u9 t9 H1 locs ht hvm hw hB hz1 hk1 hS => ?_)
    refine W.widen (k := 0) (n := 0) (Nat.le_of_ble_eq_true rfl) (Nat.le_of_ble_eq_true rfl) ?_
    have hP := hP.kept (H1 := H1) (fun k q hk => hk1 q.1 (hP k q hk).lt (fun h => h))
    clear hz1 hk1 hB ht hvm t9
    generalize H1 = H at hP hS ⊢
    have hP : va_P (dC, dI) vwCl [(m0, .inr (4, [.ref m1, .ref m2, .int (nI bk), .ref m3, .ref m4, .ref m5, .ref m6, .int sd, .ref m7, .ref m8, .int cl, .int pc, .int op])), (m1, .inl (km1, 93, .inl nw)), (m2, .inl (km2, 93, .inl ws)), (m3, .inl (km3, 3720, .inl bc)), (m4, .inl (km4, 186, .inl im)), (m5, .inl (km5, 2, .inl isd)), (m6, .inl (km6, 2, .inl kp)), (m7, .inl (km7, 1525, .inl vl)), (m8, .inl (km8, 24, .inl pl))] H := hP
    have wr_3 := hw
    clear hw
    refine lv_if_ne (tgt := 17) hx hb dX4_law_11 (by decide) (fun c_11 => ?_) (fun c_11 => ?_)
    · obtain ⟨j_4, hj_4, rfl⟩ := b_1 wr_3 c_11
      refine lv_iload_n hx hb dX4_law_17 rfl (lv_at hl 1 rfl) ?_
      refine lv_iload_n hx hb dX4_law_18 rfl (lv_at hl 2 rfl) ?_
      refine lv_icmp_gt (tgt := 55) hx hb dX4_law_19 (by decide) (fun c_19 => ?_) (fun c_19 => ?_)
      · have c_19 := (nI_ltI (by omega : j_4 < 2 ^ 31) (by omega : j_2 < 2 ^ 31)).mp c_19
        refine lv_ldc (own := RX4) (v := (-1000000002)) hx hb hown (hts (.constant RX4 110 (-1000000002)) (List.mem_of_getElem? (i := 2) rfl)) dX4_law_55 ?_
        subst hQe
        have hP9 := hP.sub (ws' := [(m0, .inr (4, [.ref m1, .ref m2, .int (nI bk), .ref m3, .ref m4, .ref m5, .ref m6, .int sd, .ref m7, .ref m8, .int cl, .int pc, .int op])), (m1, .inl (km1, 93, .inl nw)), (m2, .inl (km2, 93, .inl ws)), (m3, .inl (km3, 3720, .inl bc)), (m4, .inl (km4, 186, .inl im)), (m5, .inl (km5, 2, .inl isd)), (m6, .inl (km6, 2, .inl kp)), (m7, .inl (km7, 1525, .inl vl)), (m8, .inl (km8, 24, .inl pl))]) [0, 1, 2, 3, 4, 5, 6, 7, 8] rfl
        have hD9 := hD.sub (ws' := [(m0, .inr (4, [.ref m1, .ref m2, .int (nI bk), .ref m3, .ref m4, .ref m5, .ref m6, .int sd, .ref m7, .ref m8, .int cl, .int pc, .int op])), (m1, .inl (km1, 93, .inl nw)), (m2, .inl (km2, 93, .inl ws)), (m3, .inl (km3, 3720, .inl bc)), (m4, .inl (km4, 186, .inl im)), (m5, .inl (km5, 2, .inl isd)), (m6, .inl (km6, 2, .inl kp)), (m7, .inl (km7, 1525, .inl vl)), (m8, .inl (km8, 24, .inl pl))]) [0, 1, 2, 3, 4, 5, 6, 7, 8] (by decide) rfl
        have hK9 := hK.sub (tys' := [(km1, .int), (km2, .int), (km3, .int), (km4, .int), (km5, .int), (km6, .boolean), (km7, .int), (km8, .int)]) [0, 1, 2, 3, 4, 5, 6, 7] rfl
        subst hAe
        exact W.iret (v := ((-1000000002))) hx hb hr (fun t ht hW => ⟨⟨_, _, rfl, rfl, bk, sd, cl, pc, op, nw, ws, bc, im, isd, vl, pl, (by first | assumption | omega), (by first | assumption | omega), (by first | assumption | omega), (by first | assumption | omega), (by first | assumption | omega), by rw [ht]; exact hP9, va_K.moved hW.alike hK9, hD9⟩, hS.F ht⟩) hS.2.2 dX4_law_57
      · have c_19 := (not_congr (nI_ltI (by omega : j_4 < 2 ^ 31) (by omega : j_2 < 2 ^ 31))).mp c_19
        refine lv_iload_n hx hb dX4_law_22 rfl (lv_at hl 3 rfl) ?_
        refine lv_iconst (v := nI 0) hx hb dX4_law_23 (by decide) ?_
        refine lv_iconst (v := nI 4) hx hb dX4_law_24 (by decide) ?_
        refine va_calli (va_runS (As := [.int kd, .int (nI 0), .int (nI 4)]) (rest := []) ⟨hx, hb, hml, hown, hts⟩ (c_X4_in l dC dI   kd (nI 0) (nI 4)  ) (va_cwS 3 hts gX4_law_X4_in rfl rfl rfl (by decide +kernel) ⟨Nat.le_of_ble_eq_true rfl, Nat.le_of_ble_eq_true rfl⟩) ⟨fun a U g mk q => q, fun U hU hW => ⟨rfl, trivial⟩⟩ rfl rfl hl.1 rfl (lv_room (Nat.le_of_ble_eq_true rfl)) dX4_law_25 ⟨Nat.le_of_ble_eq_true rfl, Nat.le_of_ble_eq_true rfl⟩) hS (fun q _ h => h.elim) (fun q h => h.elim) (fun r_5 u9 t9 H1 locs ht hvm hw hB hz1 hk1 hS => ?_)
        refine W.widen (k := 0) (n := 0) (Nat.le_of_ble_eq_true rfl) (Nat.le_of_ble_eq_true rfl) ?_
        have hP := hP.kept (H1 := H1) (fun k q hk => hk1 q.1 (hP k q hk).lt (fun h => h))
        clear hz1 hk1 hB ht hvm t9
        generalize H1 = H at hP hS ⊢
        have hP : va_P (dC, dI) vwCl [(m0, .inr (4, [.ref m1, .ref m2, .int (nI bk), .ref m3, .ref m4, .ref m5, .ref m6, .int sd, .ref m7, .ref m8, .int cl, .int pc, .int op])), (m1, .inl (km1, 93, .inl nw)), (m2, .inl (km2, 93, .inl ws)), (m3, .inl (km3, 3720, .inl bc)), (m4, .inl (km4, 186, .inl im)), (m5, .inl (km5, 2, .inl isd)), (m6, .inl (km6, 2, .inl kp)), (m7, .inl (km7, 1525, .inl vl)), (m8, .inl (km8, 24, .inl pl))] H := hP
        have wr_5 := hw
        clear hw
        refine lv_if_eq (tgt := 55) hx hb dX4_law_28 (by decide) (fun c_28 => ?_) (fun c_28 => ?_)
        · have nc_28 := b_0 wr_5 c_28
          refine lv_ldc (own := RX4) (v := (-1000000002)) hx hb hown (hts (.constant RX4 110 (-1000000002)) (List.mem_of_getElem? (i := 2) rfl)) dX4_law_55 ?_
          subst hQe
          have hP9 := hP.sub (ws' := [(m0, .inr (4, [.ref m1, .ref m2, .int (nI bk), .ref m3, .ref m4, .ref m5, .ref m6, .int sd, .ref m7, .ref m8, .int cl, .int pc, .int op])), (m1, .inl (km1, 93, .inl nw)), (m2, .inl (km2, 93, .inl ws)), (m3, .inl (km3, 3720, .inl bc)), (m4, .inl (km4, 186, .inl im)), (m5, .inl (km5, 2, .inl isd)), (m6, .inl (km6, 2, .inl kp)), (m7, .inl (km7, 1525, .inl vl)), (m8, .inl (km8, 24, .inl pl))]) [0, 1, 2, 3, 4, 5, 6, 7, 8] rfl
          have hD9 := hD.sub (ws' := [(m0, .inr (4, [.ref m1, .ref m2, .int (nI bk), .ref m3, .ref m4, .ref m5, .ref m6, .int sd, .ref m7, .ref m8, .int cl, .int pc, .int op])), (m1, .inl (km1, 93, .inl nw)), (m2, .inl (km2, 93, .inl ws)), (m3, .inl (km3, 3720, .inl bc)), (m4, .inl (km4, 186, .inl im)), (m5, .inl (km5, 2, .inl isd)), (m6, .inl (km6, 2, .inl kp)), (m7, .inl (km7, 1525, .inl vl)), (m8, .inl (km8, 24, .inl pl))]) [0, 1, 2, 3, 4, 5, 6, 7, 8] (by decide) rfl
          have hK9 := hK.sub (tys' := [(km1, .int), (km2, .int), (km3, .int), (km4, .int), (km5, .int), (km6, .boolean), (km7, .int), (km8, .int)]) [0, 1, 2, 3, 4, 5, 6, 7] rfl
          subst hAe
          exact W.iret (v := ((-1000000002))) hx hb hr (fun t ht hW => ⟨⟨_, _, rfl, rfl, bk, sd, cl, pc, op, nw, ws, bc, im, isd, vl, pl, (by first | assumption | omega), (by first | assumption | omega), (by first | assumption | omega), (by first | assumption | omega), (by first | assumption | omega), by rw [ht]; exact hP9, va_K.moved hW.alike hK9, hD9⟩, hS.F ht⟩) hS.2.2 dX4_law_57
        · obtain ⟨j_6, hj_6, rfl⟩ := rg_0 (by decide) (b_1 wr_5 c_28)
          refine lv_iload hx hb dX4_law_31 (lv_at hl 4 rfl) ?_
          refine lv_bipush (v := (-99)) hx hb dX4_law_33 (by decide) ?_
          refine lv_bipush (v := nI 99) hx hb dX4_law_35 (by decide) ?_
          refine va_calli (va_runS (As := [.int a, .int ((-99)), .int (nI 99)]) (rest := []) ⟨hx, hb, hml, hown, hts⟩ (c_X4_in l dC dI   a ((-99)) (nI 99)  ) (va_cwS 3 hts gX4_law_X4_in rfl rfl rfl (by decide +kernel) ⟨Nat.le_of_ble_eq_true rfl, Nat.le_of_ble_eq_true rfl⟩) ⟨fun a U g mk q => q, fun U hU hW => ⟨rfl, trivial⟩⟩ rfl rfl hl.1 rfl (lv_room (Nat.le_of_ble_eq_true rfl)) dX4_law_37 ⟨Nat.le_of_ble_eq_true rfl, Nat.le_of_ble_eq_true rfl⟩) hS (fun q _ h => h.elim) (fun q h => h.elim) (fun r_7 u9 t9 H1 locs ht hvm hw hB hz1 hk1 hS => ?_)
          refine W.widen (k := 0) (n := 0) (Nat.le_of_ble_eq_true rfl) (Nat.le_of_ble_eq_true rfl) ?_
          have hP := hP.kept (H1 := H1) (fun k q hk => hk1 q.1 (hP k q hk).lt (fun h => h))
          clear hz1 hk1 hB ht hvm t9
          generalize H1 = H at hP hS ⊢
          have hP : va_P (dC, dI) vwCl [(m0, .inr (4, [.ref m1, .ref m2, .int (nI bk), .ref m3, .ref m4, .ref m5, .ref m6, .int sd, .ref m7, .ref m8, .int cl, .int pc, .int op])), (m1, .inl (km1, 93, .inl nw)), (m2, .inl (km2, 93, .inl ws)), (m3, .inl (km3, 3720, .inl bc)), (m4, .inl (km4, 186, .inl im)), (m5, .inl (km5, 2, .inl isd)), (m6, .inl (km6, 2, .inl kp)), (m7, .inl (km7, 1525, .inl vl)), (m8, .inl (km8, 24, .inl pl))] H := hP
          have wr_7 := hw
          clear hw
          refine lv_if_eq (tgt := 55) hx hb dX4_law_40 (by decide) (fun c_40 => ?_) (fun c_40 => ?_)
          · have nc_40 := b_0 wr_7 c_40
            refine lv_ldc (own := RX4) (v := (-1000000002)) hx hb hown (hts (.constant RX4 110 (-1000000002)) (List.mem_of_getElem? (i := 2) rfl)) dX4_law_55 ?_
            subst hQe
            have hP9 := hP.sub (ws' := [(m0, .inr (4, [.ref m1, .ref m2, .int (nI bk), .ref m3, .ref m4, .ref m5, .ref m6, .int sd, .ref m7, .ref m8, .int cl, .int pc, .int op])), (m1, .inl (km1, 93, .inl nw)), (m2, .inl (km2, 93, .inl ws)), (m3, .inl (km3, 3720, .inl bc)), (m4, .inl (km4, 186, .inl im)), (m5, .inl (km5, 2, .inl isd)), (m6, .inl (km6, 2, .inl kp)), (m7, .inl (km7, 1525, .inl vl)), (m8, .inl (km8, 24, .inl pl))]) [0, 1, 2, 3, 4, 5, 6, 7, 8] rfl
            have hD9 := hD.sub (ws' := [(m0, .inr (4, [.ref m1, .ref m2, .int (nI bk), .ref m3, .ref m4, .ref m5, .ref m6, .int sd, .ref m7, .ref m8, .int cl, .int pc, .int op])), (m1, .inl (km1, 93, .inl nw)), (m2, .inl (km2, 93, .inl ws)), (m3, .inl (km3, 3720, .inl bc)), (m4, .inl (km4, 186, .inl im)), (m5, .inl (km5, 2, .inl isd)), (m6, .inl (km6, 2, .inl kp)), (m7, .inl (km7, 1525, .inl vl)), (m8, .inl (km8, 24, .inl pl))]) [0, 1, 2, 3, 4, 5, 6, 7, 8] (by decide) rfl
            have hK9 := hK.sub (tys' := [(km1, .int), (km2, .int), (km3, .int), (km4, .int), (km5, .int), (km6, .boolean), (km7, .int), (km8, .int)]) [0, 1, 2, 3, 4, 5, 6, 7] rfl
            subst hAe
            exact W.iret (v := ((-1000000002))) hx hb hr (fun t ht hW => ⟨⟨_, _, rfl, rfl, bk, sd, cl, pc, op, nw, ws, bc, im, isd, vl, pl, (by first | assumption | omega), (by first | assumption | omega), (by first | assumption | omega), (by first | assumption | omega), (by first | assumption | omega), by rw [ht]; exact hP9, va_K.moved hW.alike hK9, hD9⟩, hS.F ht⟩) hS.2.2 dX4_law_57
          · have nc_40 := b_1 wr_7 c_40
            refine lv_iload hx hb dX4_law_43 (lv_at hl 5 rfl) ?_
            refine lv_bipush (v := (-9)) hx hb dX4_law_45 (by decide) ?_
            refine lv_bipush (v := nI 9) hx hb dX4_law_47 (by decide) ?_
            refine va_calli (va_runS (As := [.int b, .int ((-9)), .int (nI 9)]) (rest := []) ⟨hx, hb, hml, hown, hts⟩ (c_X4_in l dC dI   b ((-9)) (nI 9)  ) (va_cwS 3 hts gX4_law_X4_in rfl rfl rfl (by decide +kernel) ⟨Nat.le_of_ble_eq_true rfl, Nat.le_of_ble_eq_true rfl⟩) ⟨fun a U g mk q => q, fun U hU hW => ⟨rfl, trivial⟩⟩ rfl rfl hl.1 rfl (lv_room (Nat.le_of_ble_eq_true rfl)) dX4_law_49 ⟨Nat.le_of_ble_eq_true rfl, Nat.le_of_ble_eq_true rfl⟩) hS (fun q _ h => h.elim) (fun q h => h.elim) (fun r_8 u9 t9 H1 locs ht hvm hw hB hz1 hk1 hS => ?_)
            refine W.widen (k := 0) (n := 0) (Nat.le_of_ble_eq_true rfl) (Nat.le_of_ble_eq_true rfl) ?_
            have hP := hP.kept (H1 := H1) (fun k q hk => hk1 q.1 (hP k q hk).lt (fun h => h))
            clear hz1 hk1 hB ht hvm t9
            generalize H1 = H at hP hS ⊢
            have hP : va_P (dC, dI) vwCl [(m0, .inr (4, [.ref m1, .ref m2, .int (nI bk), .ref m3, .ref m4, .ref m5, .ref m6, .int sd, .ref m7, .ref m8, .int cl, .int pc, .int op])), (m1, .inl (km1, 93, .inl nw)), (m2, .inl (km2, 93, .inl ws)), (m3, .inl (km3, 3720, .inl bc)), (m4, .inl (km4, 186, .inl im)), (m5, .inl (km5, 2, .inl isd)), (m6, .inl (km6, 2, .inl kp)), (m7, .inl (km7, 1525, .inl vl)), (m8, .inl (km8, 24, .inl pl))] H := hP
            have wr_8 := hw
            clear hw
            refine lv_if_ne (tgt := 58) hx hb dX4_law_52 (by decide) (fun c_52 => ?_) (fun c_52 => ?_)
            · have nc_52 := b_1 wr_8 c_52
              refine lv_aload_n hx hb dX4_law_58 rfl (lv_at hl 0 rfl) ?_
              refine va_get (D := (dC, dI)) (ci := 4) (v := .ref m1) (C := RX4) (T := TX4) (N := 13) hx hb hts inX4 hown hK hP 0 rfl rfl 0 (by decide) (hts (.fieldLink RX4 7 "StoreSlopesModel" "now" "[I") (List.mem_of_getElem? (i := 3) rfl)) (fun _ h9 => h9) rfl dX4_law_59 ?_
              refine lv_bipush (v := nI 7) hx hb dX4_law_62 (by decide) ?_
              obtain ⟨j_9, hj_9, ej_9⟩ := (show okN nw by assumption).2.2.2.2.1
              refine va_iald hx hb hK hP 1 0 rfl rfl (vp_in_nI (show 7 < 93 by omega) (by omega)) dX4_law_64 ?_
              refine tp_as (cl_as (by omega) ej_9) ?_
              refine lv_bipush (v := nI 12) hx hb dX4_law_65 (by decide) ?_
              refine lv_icmp_ne (tgt := 73) hx hb dX4_law_67 (by decide) (fun c_67 => ?_) (fun c_67 => ?_)
              · have c_67 := (not_congr (nI_eq (by omega : j_9 < 2 ^ 31) (by omega : 12 < 2 ^ 31))).mp c_67
                refine lv_aload_n hx hb dX4_law_73 rfl (lv_at hl 0 rfl) ?_
                refine lv_iload_n hx hb dX4_law_74 rfl (lv_at hl 1 rfl) ?_
                refine lv_iload_n hx hb dX4_law_75 rfl (lv_at hl 2 rfl) ?_
                refine lv_iload_n hx hb dX4_law_76 rfl (lv_at hl 3 rfl) ?_
                refine lv_iload hx hb dX4_law_77 (lv_at hl 4 rfl) ?_
                refine lv_iload hx hb dX4_law_79 (lv_at hl 5 rfl) ?_
                have hPc := hP.sub (ws' := [(m0, .inr (4, [.ref m1, .ref m2, .int (nI bk), .ref m3, .ref m4, .ref m5, .ref m6, .int sd, .ref m7, .ref m8, .int cl, .int pc, .int op])), (m1, .inl (km1, 93, .inl nw)), (m3, .inl (km3, 3720, .inl bc))]) [0, 1, 3] rfl
                have hKc := hK.sub (tys' := [(km1, .int), (km3, .int)]) [0, 2] rfl
                have hDc := hD.sub (ws' := [(m0, .inr (4, [.ref m1, .ref m2, .int (nI bk), .ref m3, .ref m4, .ref m5, .ref m6, .int sd, .ref m7, .ref m8, .int cl, .int pc, .int op])), (m1, .inl (km1, 93, .inl nw)), (m3, .inl (km3, 3720, .inl bc))]) [0, 1, 3] (by decide) rfl
                have hFc := va_free (wc := [(m0, .inr (4, [.ref m1, .ref m2, .int (nI bk), .ref m3, .ref m4, .ref m5, .ref m6, .int sd, .ref m7, .ref m8, .int cl, .int pc, .int op])), (m1, .inl (km1, 93, .inl nw)), (m3, .inl (km3, 3720, .inl bc))]) hD hS hA [0, 1, 3] rfl
                refine va_callv (va_runV (As := [.int (nI j_2), .int (nI j_4), .int (nI j_6), .int a, .int b]) (rest := []) ⟨hx, hb, hml, hown, hts⟩ (c_X4_addLaw l dC dI m0 m1 m3 m2 m4 m5 m6 m7 m8 km1 km3 H.size bk sd cl pc op nw bc (nI j_2) (nI j_4) (nI j_6) a b (by first | assumption | omega) (by first | assumption | omega) (by first | assumption | omega) ⟨j_9, by omega, ej_9⟩) (cwV 5 hts gX4_law_X4_addLaw rfl rfl rfl (by decide +kernel) ⟨Nat.le_of_ble_eq_true rfl, Nat.le_of_ble_eq_true rfl⟩) ⟨fun a U g mk q => by obtain ⟨q0, q1, qP, qK, qD⟩ := q; exact ⟨q0, q1, qP, va_K.moved (u := U) (U := U.calling g mk a) (Vm.Alike.refl U.vm) qK, qD⟩, va_recv hKc hPc (ci := 4) (q0 := 0) rfl rfl, fun U hU hW => ⟨rfl, by rw [hU], by rw [hU]; exact hPc, va_K.moved hW.alike hKc, hDc.weaken (fun _ _ _ _ => trivial)⟩⟩ rfl rfl hl.1 rfl (lv_room (Nat.le_of_ble_eq_true rfl)) dX4_law_81 ⟨Nat.le_of_ble_eq_true rfl, Nat.le_of_ble_eq_true rfl⟩) hS (fun q _ h => hFc q h) hFc (fun u9 t9 H1 locs ht hvm hw hB hz1 hk1 hS => ?_)
                refine W.widen (k := 0) (n := 0) (Nat.le_of_ble_eq_true rfl) (Nat.le_of_ble_eq_true rfl) ?_
                obtain ⟨⟩ := u9
                obtain ⟨bk_11, bc_12, nw_13, h_14, h_15, h_16, hP1, hK1, hD1⟩ := hB
                rw [ht] at hP1
                obtain ⟨hP, hD⟩ := va_join (wr := [(m2, .inl (km2, 93, .inl ws)), (m4, .inl (km4, 186, .inl im)), (m5, .inl (km5, 2, .inl isd)), (m6, .inl (km6, 2, .inl kp)), (m7, .inl (km7, 1525, .inl vl)), (m8, .inl (km8, 24, .inl pl))]) (w1 := [(m0, .inr (4, [.ref m1, .ref m2, .int (nI bk_11), .ref m3, .ref m4, .ref m5, .ref m6, .int sd, .ref m7, .ref m8, .int cl, .int pc, .int op])), (m1, .inl (km1, 93, .inl nw_13)), (m3, .inl (km3, 3720, .inl bc_12))]) hP hD [0, 1, 3] [2, 4, 5, 6, 7, 8] rfl rfl (by decide) (by decide) hk1 hFc hP1 hD1
                clear hPc hDc hKc hFc hz1 hk1 ht hvm hP1 hK1 hD1 hw t9
                generalize H1 = H at hP hS ⊢
                have hP := hP.sub (ws' := [(m0, .inr (4, [.ref m1, .ref m2, .int (nI bk_11), .ref m3, .ref m4, .ref m5, .ref m6, .int sd, .ref m7, .ref m8, .int cl, .int pc, .int op])), (m1, .inl (km1, 93, .inl nw_13)), (m2, .inl (km2, 93, .inl ws)), (m3, .inl (km3, 3720, .inl bc_12)), (m4, .inl (km4, 186, .inl im)), (m5, .inl (km5, 2, .inl isd)), (m6, .inl (km6, 2, .inl kp)), (m7, .inl (km7, 1525, .inl vl)), (m8, .inl (km8, 24, .inl pl))]) [6, 7, 0, 8, 1, 2, 3, 4, 5] rfl
                have hD := hD.sub (ws' := [(m0, .inr (4, [.ref m1, .ref m2, .int (nI bk_11), .ref m3, .ref m4, .ref m5, .ref m6, .int sd, .ref m7, .ref m8, .int cl, .int pc, .int op])), (m1, .inl (km1, 93, .inl nw_13)), (m2, .inl (km2, 93, .inl ws)), (m3, .inl (km3, 3720, .inl bc_12)), (m4, .inl (km4, 186, .inl im)), (m5, .inl (km5, 2, .inl isd)), (m6, .inl (km6, 2, .inl kp)), (m7, .inl (km7, 1525, .inl vl)), (m8, .inl (km8, 24, .inl pl))]) [6, 7, 0, 8, 1, 2, 3, 4, 5] (by decide) rfl
                refine lv_aload_n hx hb dX4_law_84 rfl (lv_at hl 0 rfl) ?_
                have hPc := hP.sub (ws' := [(m0, .inr (4, [.ref m1, .ref m2, .int (nI bk_11), .ref m3, .ref m4, .ref m5, .ref m6, .int sd, .ref m7, .ref m8, .int cl, .int pc, .int op])), (m1, .inl (km1, 93, .inl nw_13)), (m7, .inl (km7, 1525, .inl vl))]) [0, 1, 7] rfl
                have hKc := hK.sub (tys' := [(km1, .int), (km7, .int)]) [0, 6] rfl
                have hDc := hD.sub (ws' := [(m0, .inr (4, [.ref m1, .ref m2, .int (nI bk_11), .ref m3, .ref m4, .ref m5, .ref m6, .int sd, .ref m7, .ref m8, .int cl, .int pc, .int op])), (m1, .inl (km1, 93, .inl nw_13)), (m7, .inl (km7, 1525, .inl vl))]) [0, 1, 7] (by decide) rfl
                have hFc := va_free (wc := [(m0, .inr (4, [.ref m1, .ref m2, .int (nI bk_11), .ref m3, .ref m4, .ref m5, .ref m6, .int sd, .ref m7, .ref m8, .int cl, .int pc, .int op])), (m1, .inl (km1, 93, .inl nw_13)), (m7, .inl (km7, 1525, .inl vl))]) hD hS hA [0, 1, 7] rfl
                refine va_calli (va_runV (As := []) (rest := []) ⟨hx, hb, hml, hown, hts⟩ (c_X4_bestOf l dC dI m0 m1 m7 m2 m3 m4 m5 m6 m8 km1 km7 H.size bk_11 sd cl pc op nw_13 vl  (by first | assumption | omega) (by first | assumption | omega) ) (cwV 0 hts gX4_law_X4_bestOf rfl rfl rfl (by decide +kernel) ⟨Nat.le_of_ble_eq_true rfl, Nat.le_of_ble_eq_true rfl⟩) ⟨fun a U g mk q => by obtain ⟨q0, q1, qP, qK, qD⟩ := q; exact ⟨q0, q1, qP, va_K.moved (u := U) (U := U.calling g mk a) (Vm.Alike.refl U.vm) qK, qD⟩, va_recv hKc hPc (ci := 4) (q0 := 0) rfl rfl, fun U hU hW => ⟨rfl, by rw [hU], by rw [hU]; exact hPc, va_K.moved hW.alike hKc, hDc.weaken (fun _ _ _ _ => trivial)⟩⟩ rfl rfl hl.1 rfl (lv_room (Nat.le_of_ble_eq_true rfl)) dX4_law_85 ⟨Nat.le_of_ble_eq_true rfl, Nat.le_of_ble_eq_true rfl⟩) hS (fun q _ h => hFc q h) hFc (fun r_17 u9 t9 H1 locs ht hvm hw hB hz1 hk1 hS => ?_)
                refine W.widen (k := 0) (n := 0) (Nat.le_of_ble_eq_true rfl) (Nat.le_of_ble_eq_true rfl) ?_
                obtain ⟨vl_18, h_19, h_20, hP1, hK1, hD1⟩ := hB
                rw [ht] at hP1
                have hw := hw.symm
                subst hw
                obtain ⟨hP, hD⟩ := va_join (wr := [(m2, .inl (km2, 93, .inl ws)), (m3, .inl (km3, 3720, .inl bc_12)), (m4, .inl (km4, 186, .inl im)), (m5, .inl (km5, 2, .inl isd)), (m6, .inl (km6, 2, .inl kp)), (m8, .inl (km8, 24, .inl pl))]) (w1 := [(m0, .inr (4, [.ref m1, .ref m2, .int (nI bk_11), .ref m3, .ref m4, .ref m5, .ref m6, .int sd, .ref m7, .ref m8, .int cl, .int pc, .int op])), (m1, .inl (km1, 93, .inl nw_13)), (m7, .inl (km7, 1525, .inl vl_18))]) hP hD [0, 1, 7] [2, 3, 4, 5, 6, 8] rfl rfl (by decide) (by decide) hk1 hFc hP1 hD1
                clear hPc hDc hKc hFc hz1 hk1 ht hvm hP1 hK1 hD1 t9
                generalize H1 = H at hP hS ⊢
                have hP := hP.sub (ws' := [(m0, .inr (4, [.ref m1, .ref m2, .int (nI bk_11), .ref m3, .ref m4, .ref m5, .ref m6, .int sd, .ref m7, .ref m8, .int cl, .int pc, .int op])), (m1, .inl (km1, 93, .inl nw_13)), (m2, .inl (km2, 93, .inl ws)), (m3, .inl (km3, 3720, .inl bc_12)), (m4, .inl (km4, 186, .inl im)), (m5, .inl (km5, 2, .inl isd)), (m6, .inl (km6, 2, .inl kp)), (m7, .inl (km7, 1525, .inl vl_18)), (m8, .inl (km8, 24, .inl pl))]) [6, 7, 0, 1, 2, 3, 4, 8, 5] rfl
                have hD := hD.sub (ws' := [(m0, .inr (4, [.ref m1, .ref m2, .int (nI bk_11), .ref m3, .ref m4, .ref m5, .ref m6, .int sd, .ref m7, .ref m8, .int cl, .int pc, .int op])), (m1, .inl (km1, 93, .inl nw_13)), (m2, .inl (km2, 93, .inl ws)), (m3, .inl (km3, 3720, .inl bc_12)), (m4, .inl (km4, 186, .inl im)), (m5, .inl (km5, 2, .inl isd)), (m6, .inl (km6, 2, .inl kp)), (m7, .inl (km7, 1525, .inl vl_18)), (m8, .inl (km8, 24, .inl pl))]) [6, 7, 0, 1, 2, 3, 4, 8, 5] (by decide) rfl
                refine va_calli (va_runS (As := [.int r_17]) (rest := []) ⟨hx, hb, hml, hown, hts⟩ (c_X4_shown l dC dI   r_17  ) (va_cwS 1 hts gX4_law_X4_shown rfl rfl rfl (by decide +kernel) ⟨Nat.le_of_ble_eq_true rfl, Nat.le_of_ble_eq_true rfl⟩) ⟨fun a U g mk q => q, fun U hU hW => ⟨rfl, trivial⟩⟩ rfl rfl hl.1 rfl (lv_room (Nat.le_of_ble_eq_true rfl)) dX4_law_88 ⟨Nat.le_of_ble_eq_true rfl, Nat.le_of_ble_eq_true rfl⟩) hS (fun q _ h => h.elim) (fun q h => h.elim) (fun r_22 u9 t9 H1 locs ht hvm hw hB hz1 hk1 hS => ?_)
                refine W.widen (k := 0) (n := 0) (Nat.le_of_ble_eq_true rfl) (Nat.le_of_ble_eq_true rfl) ?_
                have hP := hP.kept (H1 := H1) (fun k q hk => hk1 q.1 (hP k q hk).lt (fun h => h))
                clear hz1 hk1 hB ht hvm t9
                generalize H1 = H at hP hS ⊢
                have hP : va_P (dC, dI) vwCl [(m0, .inr (4, [.ref m1, .ref m2, .int (nI bk_11), .ref m3, .ref m4, .ref m5, .ref m6, .int sd, .ref m7, .ref m8, .int cl, .int pc, .int op])), (m1, .inl (km1, 93, .inl nw_13)), (m2, .inl (km2, 93, .inl ws)), (m3, .inl (km3, 3720, .inl bc_12)), (m4, .inl (km4, 186, .inl im)), (m5, .inl (km5, 2, .inl isd)), (m6, .inl (km6, 2, .inl kp)), (m7, .inl (km7, 1525, .inl vl_18)), (m8, .inl (km8, 24, .inl pl))] H := hP
                clear hw
                subst hQe
                have hP9 := hP.sub (ws' := [(m0, .inr (4, [.ref m1, .ref m2, .int (nI bk_11), .ref m3, .ref m4, .ref m5, .ref m6, .int sd, .ref m7, .ref m8, .int cl, .int pc, .int op])), (m1, .inl (km1, 93, .inl nw_13)), (m2, .inl (km2, 93, .inl ws)), (m3, .inl (km3, 3720, .inl bc_12)), (m4, .inl (km4, 186, .inl im)), (m5, .inl (km5, 2, .inl isd)), (m6, .inl (km6, 2, .inl kp)), (m7, .inl (km7, 1525, .inl vl_18)), (m8, .inl (km8, 24, .inl pl))]) [0, 1, 2, 3, 4, 5, 6, 7, 8] rfl
                have hD9 := hD.sub (ws' := [(m0, .inr (4, [.ref m1, .ref m2, .int (nI bk_11), .ref m3, .ref m4, .ref m5, .ref m6, .int sd, .ref m7, .ref m8, .int cl, .int pc, .int op])), (m1, .inl (km1, 93, .inl nw_13)), (m2, .inl (km2, 93, .inl ws)), (m3, .inl (km3, 3720, .inl bc_12)), (m4, .inl (km4, 186, .inl im)), (m5, .inl (km5, 2, .inl isd)), (m6, .inl (km6, 2, .inl kp)), (m7, .inl (km7, 1525, .inl vl_18)), (m8, .inl (km8, 24, .inl pl))]) [0, 1, 2, 3, 4, 5, 6, 7, 8] (by decide) rfl
                have hK9 := hK.sub (tys' := [(km1, .int), (km2, .int), (km3, .int), (km4, .int), (km5, .int), (km6, .boolean), (km7, .int), (km8, .int)]) [0, 1, 2, 3, 4, 5, 6, 7] rfl
                subst hAe
                exact W.iret (v := r_22) hx hb hr (fun t ht hW => ⟨⟨_, _, rfl, rfl, bk_11, sd, cl, pc, op, nw_13, ws, bc_12, im, isd, vl_18, pl, (by first | assumption | omega), (by first | assumption | omega), (by first | assumption | omega), (by first | assumption | omega), (by first | assumption | omega), by rw [ht]; exact hP9, va_K.moved hW.alike hK9, hD9⟩, hS.F ht⟩) hS.2.2 dX4_law_91
              · have c_67 := (nI_eq (by omega : j_9 < 2 ^ 31) (by omega : 12 < 2 ^ 31)).mp c_67
                refine lv_ldc (own := RX4) (v := (-1000000004)) hx hb hown (hts (.constant RX4 134 (-1000000004)) (List.mem_of_getElem? (i := 4) rfl)) dX4_law_70 ?_
                subst hQe
                have hP9 := hP.sub (ws' := [(m0, .inr (4, [.ref m1, .ref m2, .int (nI bk), .ref m3, .ref m4, .ref m5, .ref m6, .int sd, .ref m7, .ref m8, .int cl, .int pc, .int op])), (m1, .inl (km1, 93, .inl nw)), (m2, .inl (km2, 93, .inl ws)), (m3, .inl (km3, 3720, .inl bc)), (m4, .inl (km4, 186, .inl im)), (m5, .inl (km5, 2, .inl isd)), (m6, .inl (km6, 2, .inl kp)), (m7, .inl (km7, 1525, .inl vl)), (m8, .inl (km8, 24, .inl pl))]) [0, 1, 2, 3, 4, 5, 6, 7, 8] rfl
                have hD9 := hD.sub (ws' := [(m0, .inr (4, [.ref m1, .ref m2, .int (nI bk), .ref m3, .ref m4, .ref m5, .ref m6, .int sd, .ref m7, .ref m8, .int cl, .int pc, .int op])), (m1, .inl (km1, 93, .inl nw)), (m2, .inl (km2, 93, .inl ws)), (m3, .inl (km3, 3720, .inl bc)), (m4, .inl (km4, 186, .inl im)), (m5, .inl (km5, 2, .inl isd)), (m6, .inl (km6, 2, .inl kp)), (m7, .inl (km7, 1525, .inl vl)), (m8, .inl (km8, 24, .inl pl))]) [0, 1, 2, 3, 4, 5, 6, 7, 8] (by decide) rfl
                have hK9 := hK.sub (tys' := [(km1, .int), (km2, .int), (km3, .int), (km4, .int), (km5, .int), (km6, .boolean), (km7, .int), (km8, .int)]) [0, 1, 2, 3, 4, 5, 6, 7] rfl
                subst hAe
                exact W.iret (v := ((-1000000004))) hx hb hr (fun t ht hW => ⟨⟨_, _, rfl, rfl, bk, sd, cl, pc, op, nw, ws, bc, im, isd, vl, pl, (by first | assumption | omega), (by first | assumption | omega), (by first | assumption | omega), (by first | assumption | omega), (by first | assumption | omega), by rw [ht]; exact hP9, va_K.moved hW.alike hK9, hD9⟩, hS.F ht⟩) hS.2.2 dX4_law_72
            · have nc_52 := b_0 wr_8 c_52
              refine lv_ldc (own := RX4) (v := (-1000000002)) hx hb hown (hts (.constant RX4 110 (-1000000002)) (List.mem_of_getElem? (i := 2) rfl)) dX4_law_55 ?_
              subst hQe
              have hP9 := hP.sub (ws' := [(m0, .inr (4, [.ref m1, .ref m2, .int (nI bk), .ref m3, .ref m4, .ref m5, .ref m6, .int sd, .ref m7, .ref m8, .int cl, .int pc, .int op])), (m1, .inl (km1, 93, .inl nw)), (m2, .inl (km2, 93, .inl ws)), (m3, .inl (km3, 3720, .inl bc)), (m4, .inl (km4, 186, .inl im)), (m5, .inl (km5, 2, .inl isd)), (m6, .inl (km6, 2, .inl kp)), (m7, .inl (km7, 1525, .inl vl)), (m8, .inl (km8, 24, .inl pl))]) [0, 1, 2, 3, 4, 5, 6, 7, 8] rfl
              have hD9 := hD.sub (ws' := [(m0, .inr (4, [.ref m1, .ref m2, .int (nI bk), .ref m3, .ref m4, .ref m5, .ref m6, .int sd, .ref m7, .ref m8, .int cl, .int pc, .int op])), (m1, .inl (km1, 93, .inl nw)), (m2, .inl (km2, 93, .inl ws)), (m3, .inl (km3, 3720, .inl bc)), (m4, .inl (km4, 186, .inl im)), (m5, .inl (km5, 2, .inl isd)), (m6, .inl (km6, 2, .inl kp)), (m7, .inl (km7, 1525, .inl vl)), (m8, .inl (km8, 24, .inl pl))]) [0, 1, 2, 3, 4, 5, 6, 7, 8] (by decide) rfl
              have hK9 := hK.sub (tys' := [(km1, .int), (km2, .int), (km3, .int), (km4, .int), (km5, .int), (km6, .boolean), (km7, .int), (km8, .int)]) [0, 1, 2, 3, 4, 5, 6, 7] rfl
              subst hAe
              exact W.iret (v := ((-1000000002))) hx hb hr (fun t ht hW => ⟨⟨_, _, rfl, rfl, bk, sd, cl, pc, op, nw, ws, bc, im, isd, vl, pl, (by first | assumption | omega), (by first | assumption | omega), (by first | assumption | omega), (by first | assumption | omega), (by first | assumption | omega), by rw [ht]; exact hP9, va_K.moved hW.alike hK9, hD9⟩, hS.F ht⟩) hS.2.2 dX4_law_57
    · have nc_11 := b_0 wr_3 c_11
      refine lv_ldc (own := RX4) (v := (-1000000001)) hx hb hown (hts (.constant RX4 109 (-1000000001)) (List.mem_of_getElem? (i := 1) rfl)) dX4_law_14 ?_
      subst hQe
      have hP9 := hP.sub (ws' := [(m0, .inr (4, [.ref m1, .ref m2, .int (nI bk), .ref m3, .ref m4, .ref m5, .ref m6, .int sd, .ref m7, .ref m8, .int cl, .int pc, .int op])), (m1, .inl (km1, 93, .inl nw)), (m2, .inl (km2, 93, .inl ws)), (m3, .inl (km3, 3720, .inl bc)), (m4, .inl (km4, 186, .inl im)), (m5, .inl (km5, 2, .inl isd)), (m6, .inl (km6, 2, .inl kp)), (m7, .inl (km7, 1525, .inl vl)), (m8, .inl (km8, 24, .inl pl))]) [0, 1, 2, 3, 4, 5, 6, 7, 8] rfl
      have hD9 := hD.sub (ws' := [(m0, .inr (4, [.ref m1, .ref m2, .int (nI bk), .ref m3, .ref m4, .ref m5, .ref m6, .int sd, .ref m7, .ref m8, .int cl, .int pc, .int op])), (m1, .inl (km1, 93, .inl nw)), (m2, .inl (km2, 93, .inl ws)), (m3, .inl (km3, 3720, .inl bc)), (m4, .inl (km4, 186, .inl im)), (m5, .inl (km5, 2, .inl isd)), (m6, .inl (km6, 2, .inl kp)), (m7, .inl (km7, 1525, .inl vl)), (m8, .inl (km8, 24, .inl pl))]) [0, 1, 2, 3, 4, 5, 6, 7, 8] (by decide) rfl
      have hK9 := hK.sub (tys' := [(km1, .int), (km2, .int), (km3, .int), (km4, .int), (km5, .int), (km6, .boolean), (km7, .int), (km8, .int)]) [0, 1, 2, 3, 4, 5, 6, 7] rfl
      subst hAe
      exact W.iret (v := ((-1000000001))) hx hb hr (fun t ht hW => ⟨⟨_, _, rfl, rfl, bk, sd, cl, pc, op, nw, ws, bc, im, isd, vl, pl, (by first | assumption | omega), (by first | assumption | omega), (by first | assumption | omega), (by first | assumption | omega), (by first | assumption | omega), by rw [ht]; exact hP9, va_K.moved hW.alike hK9, hD9⟩, hS.F ht⟩) hS.2.2 dX4_law_16
set_option maxHeartbeats 4000000 in
set_option maxRecDepth 100000 in
theorem c_X4_drop (l : Launch) (dC : Nat → ClassId) (dI : Nat → Nat → Nat) (m0 m1 m2 m3 m4 m5 m6 m7 m8 : Nat) (km1 km2 km3 km4 km5 km6 km7 km8 : ClassId) (sz : Nat) (bk : Nat) (sd : Int32) (cl : Int32) (pc : Int32) (op : Int32) (nw : Nat → Int32) (ws : Nat → Int32) (bc : Nat → Int32) (im : Nat → Int32) (isd : Nat → Int32) (kp : Nat → Int32) (vl : Nat → Int32) (pl : Nat → Int32) (a : Int32) (i0 : bk ≤ 40) (i1 : okN nw) (i2 : okB 40 bc) (i3 : okB 2 im) (i4 : bdA 60 24 pl) : Met l yX4_drop wsX4_drop ({ frames := 7, cells := 0, slots := 0, locals := 162 }) (va_Pc [.ref m0, .int a] (fun U => U.heap.size = sz ∧ va_P (dC, dI) vwCl [(m0, .inr (4, [.ref m1, .ref m2, .int (nI bk), .ref m3, .ref m4, .ref m5, .ref m6, .int sd, .ref m7, .ref m8, .int cl, .int pc, .int op])), (m1, .inl (km1, 93, .inl nw)), (m2, .inl (km2, 93, .inl ws)), (m3, .inl (km3, 3720, .inl bc)), (m4, .inl (km4, 186, .inl im)), (m5, .inl (km5, 2, .inl isd)), (m6, .inl (km6, 2, .inl kp)), (m7, .inl (km7, 1525, .inl vl)), (m8, .inl (km8, 24, .inl pl))] U.heap ∧ va_K (dC, dI) vwCl [(km1, .int), (km2, .int), (km3, .int), (km4, .int), (km5, .int), (km6, .boolean), (km7, .int), (km8, .int)] U ∧ va_D (fun _ => True) [(m0, .inr (4, [.ref m1, .ref m2, .int (nI bk), .ref m3, .ref m4, .ref m5, .ref m6, .int sd, .ref m7, .ref m8, .int cl, .int pc, .int op])), (m1, .inl (km1, 93, .inl nw)), (m2, .inl (km2, 93, .inl ws)), (m3, .inl (km3, 3720, .inl bc)), (m4, .inl (km4, 186, .inl im)), (m5, .inl (km5, 2, .inl isd)), (m6, .inl (km6, 2, .inl kp)), (m7, .inl (km7, 1525, .inl vl)), (m8, .inl (km8, 24, .inl pl))])) (va_Qi (fun (r u : Int32) => u = r) (fun r t => ∃ (bk' : Nat) (sd' : Int32) (cl' : Int32) (pc' : Int32) (op' : Int32) (nw' : Nat → Int32) (ws' : Nat → Int32) (bc' : Nat → Int32) (im' : Nat → Int32) (isd' : Nat → Int32) (vl' : Nat → Int32) (pl' : Nat → Int32), bk' ≤ 40 ∧ okN nw' ∧ okB 40 bc' ∧ okB 2 im' ∧ bdA 60 24 pl' ∧ va_P (dC, dI) vwCl [(m0, .inr (4, [.ref m1, .ref m2, .int (nI bk'), .ref m3, .ref m4, .ref m5, .ref m6, .int sd', .ref m7, .ref m8, .int cl', .int pc', .int op'])), (m1, .inl (km1, 93, .inl nw')), (m2, .inl (km2, 93, .inl ws')), (m3, .inl (km3, 3720, .inl bc')), (m4, .inl (km4, 186, .inl im')), (m5, .inl (km5, 2, .inl isd')), (m6, .inl (km6, 2, .inl kp)), (m7, .inl (km7, 1525, .inl vl')), (m8, .inl (km8, 24, .inl pl'))] t.heap ∧ va_K (dC, dI) vwCl [(km1, .int), (km2, .int), (km3, .int), (km4, .int), (km5, .int), (km6, .boolean), (km7, .int), (km8, .int)] t ∧ va_D (va_A [(m0, .inr (4, [.ref m1, .ref m2, .int (nI bk), .ref m3, .ref m4, .ref m5, .ref m6, .int sd, .ref m7, .ref m8, .int cl, .int pc, .int op])), (m1, .inl (km1, 93, .inl nw)), (m2, .inl (km2, 93, .inl ws)), (m3, .inl (km3, 3720, .inl bc)), (m4, .inl (km4, 186, .inl im)), (m5, .inl (km5, 2, .inl isd)), (m6, .inl (km6, 2, .inl kp)), (m7, .inl (km7, 1525, .inl vl)), (m8, .inl (km8, 24, .inl pl))] sz) [(m0, .inr (4, [.ref m1, .ref m2, .int (nI bk'), .ref m3, .ref m4, .ref m5, .ref m6, .int sd', .ref m7, .ref m8, .int cl', .int pc', .int op'])), (m1, .inl (km1, 93, .inl nw')), (m2, .inl (km2, 93, .inl ws')), (m3, .inl (km3, 3720, .inl bc')), (m4, .inl (km4, 186, .inl im')), (m5, .inl (km5, 2, .inl isd')), (m6, .inl (km6, 2, .inl kp)), (m7, .inl (km7, 1525, .inl vl')), (m8, .inl (km8, 24, .inl pl'))]) (va_A [(m0, .inr (4, [.ref m1, .ref m2, .int (nI bk), .ref m3, .ref m4, .ref m5, .ref m6, .int sd, .ref m7, .ref m8, .int cl, .int pc, .int op])), (m1, .inl (km1, 93, .inl nw)), (m2, .inl (km2, 93, .inl ws)), (m3, .inl (km3, 3720, .inl bc)), (m4, .inl (km4, 186, .inl im)), (m5, .inl (km5, 2, .inl isd)), (m6, .inl (km6, 2, .inl kp)), (m7, .inl (km7, 1525, .inl vl)), (m8, .inl (km8, 24, .inl pl))] sz)) 0 0 (va_A [(m0, .inr (4, [.ref m1, .ref m2, .int (nI bk), .ref m3, .ref m4, .ref m5, .ref m6, .int sd, .ref m7, .ref m8, .int cl, .int pc, .int op])), (m1, .inl (km1, 93, .inl nw)), (m2, .inl (km2, 93, .inl ws)), (m3, .inl (km3, 3720, .inl bc)), (m4, .inl (km4, 186, .inl im)), (m5, .inl (km5, 2, .inl isd)), (m6, .inl (km6, 2, .inl kp)), (m7, .inl (km7, 1525, .inl vl)), (m8, .inl (km8, 24, .inl pl))] sz) := by
  refine Met.ofW (cc := cX4_drop) (maxL := 4) (ret := (some .int)) (by decide) rfl ?_
  intro p e s m args below meth c s₁ B hml hv
  obtain ⟨rfl, hsz, hP, hK, hD0⟩ := hv
  have hx := B.exec
  have hb := B.bytes
  have hr := B.returns
  have hts := atoms_spec (ws := wsX4_drop) B.pre
  have hown : s.vm.findClass RX4 = some m.cls := findClass_of_methodNamed B.named
  have hlocks := B.notSynchronized
  have inX4 : ∀ w ∈ wsX40, w ∈ wsX4_drop := fun _ h => List.mem_cons_of_mem _ (List.mem_append_right _ h)
  subst hsz
  have hD := hD0.self (sz := s.heap.size)
  generalize hAe : va_A [(m0, .inr (4, [.ref m1, .ref m2, .int (nI bk), .ref m3, .ref m4, .ref m5, .ref m6, .int sd, .ref m7, .ref m8, .int cl, .int pc, .int op])), (m1, .inl (km1, 93, .inl nw)), (m2, .inl (km2, 93, .inl ws)), (m3, .inl (km3, 3720, .inl bc)), (m4, .inl (km4, 186, .inl im)), (m5, .inl (km5, 2, .inl isd)), (m6, .inl (km6, 2, .inl kp)), (m7, .inl (km7, 1525, .inl vl)), (m8, .inl (km8, 24, .inl pl))] s.heap.size = A at hD ⊢
  have hA : ∀ q : Nat, s.heap.size ≤ q → A q := fun q h => by rw [← hAe]; exact Or.inr h
  have hS : va_S A s.heap s.heap [] := va_S.rf
  have hl := lv_entry ([.ref m0, .int a]) (n := 4) (Nat.le_of_ble_eq_true rfl)
  rw [lg_entry_eq]
  generalize (lg_sl ([.ref m0, .int a]) ++ List.replicate (4 - (lg_sl ([.ref m0, .int a])).length) Slot.unset).toArray = ls at hl ⊢
  generalize hQe : MQ below _ _ s 0 0 _ = Q
  generalize ([.ref m0, .int a] : List Value).toArray = args at hts hQe ⊢
  have hl : lv_has ls 4 [(0, .ref m0), (1, .int a)] := hl
  refine lv_aload_n hx hb dX4_drop_0 rfl (lv_at hl 0 rfl) ?_
  refine lv_iload_n hx hb dX4_drop_1 rfl (lv_at hl 1 rfl) ?_
  have hPc := hP.sub (ws' := [(m0, .inr (4, [.ref m1, .ref m2, .int (nI bk), .ref m3, .ref m4, .ref m5, .ref m6, .int sd, .ref m7, .ref m8, .int cl, .int pc, .int op])), (m1, .inl (km1, 93, .inl nw))]) [0, 1] rfl
  have hKc := hK.sub (tys' := [(km1, .int)]) [0] rfl
  refine va_calli (va_runV (As := [.int a]) (rest := []) ⟨hx, hb, hml, hown, hts⟩ (c_X4_isLaw l dC dI m0 m1 m2 m3 m4 m5 m6 m7 m8 km1 bk sd cl pc op nw a (by first | assumption | omega) (by first | assumption | omega) ) (cwV 1 hts gX4_drop_X4_isLaw rfl rfl rfl (by decide +kernel) ⟨Nat.le_of_ble_eq_true rfl, Nat.le_of_ble_eq_true rfl⟩) ⟨fun a U g mk q => by obtain ⟨q0, qP, qK⟩ := q; exact ⟨q0, qP, va_K.moved (u := U) (U := U.calling g mk a) (Vm.Alike.refl U.vm) qK⟩, va_recv hKc hPc (ci := 4) (q0 := 0) rfl rfl, fun U hU hW => ⟨rfl, by rw [hU]; exact hPc, va_K.moved hW.alike hKc⟩⟩ rfl rfl hl.1 rfl (lv_room (Nat.le_of_ble_eq_true rfl)) dX4_drop_2 ⟨Nat.le_of_ble_eq_true rfl, Nat.le_of_ble_eq_true rfl⟩) hS (fun q _ h => h.elim) (fun q h => h.elim) (fun r_1 u9 t9 H1 locs ht hvm hw hB hz1 hk1 hS => ?_)
  refine W.widen (k := 0) (n := 0) (Nat.le_of_ble_eq_true rfl) (Nat.le_of_ble_eq_true rfl) ?_
  have hP := hP.kept (H1 := H1) (fun k q hk => hk1 q.1 (hP k q hk).lt (fun h => h))
  clear hz1 hk1 hB ht hvm t9
  generalize H1 = H at hP hS ⊢
  have hP : va_P (dC, dI) vwCl [(m0, .inr (4, [.ref m1, .ref m2, .int (nI bk), .ref m3, .ref m4, .ref m5, .ref m6, .int sd, .ref m7, .ref m8, .int cl, .int pc, .int op])), (m1, .inl (km1, 93, .inl nw)), (m2, .inl (km2, 93, .inl ws)), (m3, .inl (km3, 3720, .inl bc)), (m4, .inl (km4, 186, .inl im)), (m5, .inl (km5, 2, .inl isd)), (m6, .inl (km6, 2, .inl kp)), (m7, .inl (km7, 1525, .inl vl)), (m8, .inl (km8, 24, .inl pl))] H := hP
  have wr_1 := hw
  clear hw
  refine lv_if_ne (tgt := 11) hx hb dX4_drop_5 (by decide) (fun c_5 => ?_) (fun c_5 => ?_)
  · obtain ⟨j_2, c_3, hj_2, hc_3, ec_3, rfl⟩ := b_1 wr_1 c_5
    refine lv_aload_n hx hb dX4_drop_11 rfl (lv_at hl 0 rfl) ?_
    have hPc := hP.sub (ws' := [(m0, .inr (4, [.ref m1, .ref m2, .int (nI bk), .ref m3, .ref m4, .ref m5, .ref m6, .int sd, .ref m7, .ref m8, .int cl, .int pc, .int op])), (m1, .inl (km1, 93, .inl nw)), (m3, .inl (km3, 3720, .inl bc))]) [0, 1, 3] rfl
    have hKc := hK.sub (tys' := [(km1, .int), (km3, .int)]) [0, 2] rfl
    have hDc := hD.sub (ws' := [(m0, .inr (4, [.ref m1, .ref m2, .int (nI bk), .ref m3, .ref m4, .ref m5, .ref m6, .int sd, .ref m7, .ref m8, .int cl, .int pc, .int op])), (m1, .inl (km1, 93, .inl nw)), (m3, .inl (km3, 3720, .inl bc))]) [0, 1, 3] (by decide) rfl
    have hFc := va_free (wc := [(m0, .inr (4, [.ref m1, .ref m2, .int (nI bk), .ref m3, .ref m4, .ref m5, .ref m6, .int sd, .ref m7, .ref m8, .int cl, .int pc, .int op])), (m1, .inl (km1, 93, .inl nw)), (m3, .inl (km3, 3720, .inl bc))]) hD hS hA [0, 1, 3] rfl
    refine va_callv (va_runV (As := []) (rest := []) ⟨hx, hb, hml, hown, hts⟩ (c_X4_note l dC dI m0 m1 m3 m2 m4 m5 m6 m7 m8 km1 km3 H.size bk sd cl pc op nw bc  (by first | assumption | omega) (by first | assumption | omega) (by first | assumption | omega) ) (cwV 0 hts gX4_drop_X4_note rfl rfl rfl (by decide +kernel) ⟨Nat.le_of_ble_eq_true rfl, Nat.le_of_ble_eq_true rfl⟩) ⟨fun a U g mk q => by obtain ⟨q0, q1, qP, qK, qD⟩ := q; exact ⟨q0, q1, qP, va_K.moved (u := U) (U := U.calling g mk a) (Vm.Alike.refl U.vm) qK, qD⟩, va_recv hKc hPc (ci := 4) (q0 := 0) rfl rfl, fun U hU hW => ⟨rfl, by rw [hU], by rw [hU]; exact hPc, va_K.moved hW.alike hKc, hDc.weaken (fun _ _ _ _ => trivial)⟩⟩ rfl rfl hl.1 rfl (lv_room (Nat.le_of_ble_eq_true rfl)) dX4_drop_12 ⟨Nat.le_of_ble_eq_true rfl, Nat.le_of_ble_eq_true rfl⟩) hS (fun q _ h => hFc q h) hFc (fun u9 t9 H1 locs ht hvm hw hB hz1 hk1 hS => ?_)
    refine W.widen (k := 0) (n := 0) (Nat.le_of_ble_eq_true rfl) (Nat.le_of_ble_eq_true rfl) ?_
    obtain ⟨⟩ := u9
    obtain ⟨bk_5, bc_6, h_7, h_8, hP1, hK1, hD1⟩ := hB
    rw [ht] at hP1
    obtain ⟨hP, hD⟩ := va_join (wr := [(m2, .inl (km2, 93, .inl ws)), (m4, .inl (km4, 186, .inl im)), (m5, .inl (km5, 2, .inl isd)), (m6, .inl (km6, 2, .inl kp)), (m7, .inl (km7, 1525, .inl vl)), (m8, .inl (km8, 24, .inl pl))]) (w1 := [(m0, .inr (4, [.ref m1, .ref m2, .int (nI bk_5), .ref m3, .ref m4, .ref m5, .ref m6, .int sd, .ref m7, .ref m8, .int cl, .int pc, .int op])), (m1, .inl (km1, 93, .inl nw)), (m3, .inl (km3, 3720, .inl bc_6))]) hP hD [0, 1, 3] [2, 4, 5, 6, 7, 8] rfl rfl (by decide) (by decide) hk1 hFc hP1 hD1
    clear hPc hDc hKc hFc hz1 hk1 ht hvm hP1 hK1 hD1 hw t9
    generalize H1 = H at hP hS ⊢
    have hP := hP.sub (ws' := [(m0, .inr (4, [.ref m1, .ref m2, .int (nI bk_5), .ref m3, .ref m4, .ref m5, .ref m6, .int sd, .ref m7, .ref m8, .int cl, .int pc, .int op])), (m1, .inl (km1, 93, .inl nw)), (m2, .inl (km2, 93, .inl ws)), (m3, .inl (km3, 3720, .inl bc_6)), (m4, .inl (km4, 186, .inl im)), (m5, .inl (km5, 2, .inl isd)), (m6, .inl (km6, 2, .inl kp)), (m7, .inl (km7, 1525, .inl vl)), (m8, .inl (km8, 24, .inl pl))]) [6, 7, 0, 8, 1, 2, 3, 4, 5] rfl
    have hD := hD.sub (ws' := [(m0, .inr (4, [.ref m1, .ref m2, .int (nI bk_5), .ref m3, .ref m4, .ref m5, .ref m6, .int sd, .ref m7, .ref m8, .int cl, .int pc, .int op])), (m1, .inl (km1, 93, .inl nw)), (m2, .inl (km2, 93, .inl ws)), (m3, .inl (km3, 3720, .inl bc_6)), (m4, .inl (km4, 186, .inl im)), (m5, .inl (km5, 2, .inl isd)), (m6, .inl (km6, 2, .inl kp)), (m7, .inl (km7, 1525, .inl vl)), (m8, .inl (km8, 24, .inl pl))]) [6, 7, 0, 8, 1, 2, 3, 4, 5] (by decide) rfl
    refine lv_aload_n hx hb dX4_drop_15 rfl (lv_at hl 0 rfl) ?_
    refine va_get (D := (dC, dI)) (ci := 4) (v := .ref m1) (C := RX4) (T := TX4) (N := 13) hx hb hts inX4 hown hK hP 0 rfl rfl 0 (by decide) (hts (.fieldLink RX4 7 "StoreSlopesModel" "now" "[I") (List.mem_of_getElem? (i := 2) rfl)) (fun _ h9 => h9) rfl dX4_drop_16 ?_
    refine lv_bipush (v := nI 7) hx hb dX4_drop_19 (by decide) ?_
    refine va_iald hx hb hK hP 1 0 rfl rfl (vp_in_nI (show 7 < 93 by omega) (by omega)) dX4_drop_21 ?_
    refine tp_as (cl_as (by omega) ec_3) ?_
    refine lv_istore_n (lv' := [(2, .int (nI c_3)), (0, .ref m0), (1, .int (nI j_2))]) hx hb dX4_drop_22 rfl hl (by decide) rfl (fun ls hl => ?_)
    refine lv_aload_n hx hb dX4_drop_23 rfl (lv_at hl 1 rfl) ?_
    refine va_get (D := (dC, dI)) (ci := 4) (v := .ref m1) (C := RX4) (T := TX4) (N := 13) hx hb hts inX4 hown hK hP 0 rfl rfl 0 (by decide) (hts (.fieldLink RX4 7 "StoreSlopesModel" "now" "[I") (List.mem_of_getElem? (i := 2) rfl)) (fun _ h9 => h9) rfl dX4_drop_24 ?_
    refine lv_bipush (v := nI 8) hx hb dX4_drop_27 (by decide) ?_
    refine lv_iconst (v := nI 5) hx hb dX4_drop_29 (by decide) ?_
    refine lv_iload_n hx hb dX4_drop_30 rfl (lv_at hl 2 rfl) ?_
    refine lv_imul hx hb dX4_drop_31 ?_
    refine tp_as (pk_mul 5 j_2) ?_
    refine lv_iadd hx hb dX4_drop_32 ?_
    refine tp_as (nI_add 8 (5 * j_2)) ?_
    refine lv_iconst (v := nI 5) hx hb dX4_drop_33 (by decide) ?_
    refine lv_iadd hx hb dX4_drop_34 ?_
    refine tp_as (nI_add (8 + (5 * j_2)) 5) ?_
    refine lv_aload_n hx hb dX4_drop_35 rfl (lv_at hl 1 rfl) ?_
    refine va_get (D := (dC, dI)) (ci := 4) (v := .ref m1) (C := RX4) (T := TX4) (N := 13) hx hb hts inX4 hown hK hP 0 rfl rfl 0 (by decide) (hts (.fieldLink RX4 7 "StoreSlopesModel" "now" "[I") (List.mem_of_getElem? (i := 2) rfl)) (fun _ h9 => h9) rfl dX4_drop_36 ?_
    refine lv_bipush (v := nI 8) hx hb dX4_drop_39 (by decide) ?_
    refine lv_iconst (v := nI 5) hx hb dX4_drop_41 (by decide) ?_
    refine lv_iload_n hx hb dX4_drop_42 rfl (lv_at hl 2 rfl) ?_
    refine lv_imul hx hb dX4_drop_43 ?_
    refine tp_as (pk_mul 5 j_2) ?_
    refine lv_iadd hx hb dX4_drop_44 ?_
    refine tp_as (nI_add 8 (5 * j_2)) ?_
    refine lv_iconst (v := nI 5) hx hb dX4_drop_45 (by decide) ?_
    refine lv_iload_n hx hb dX4_drop_46 rfl (lv_at hl 0 rfl) ?_
    refine lv_iload_n hx hb dX4_drop_47 rfl (lv_at hl 2 rfl) ?_
    refine lv_isub hx hb dX4_drop_48 ?_
    refine tp_as (pk_sub (a := c_3) (b := j_2) (by omega)) ?_
    refine lv_iconst (v := nI 1) hx hb dX4_drop_49 (by decide) ?_
    refine lv_isub hx hb dX4_drop_50 ?_
    refine tp_as (pk_sub (a := c_3 - j_2) (b := 1) (by omega)) ?_
    refine lv_imul hx hb dX4_drop_51 ?_
    refine tp_as (pk_mul 5 ((c_3 - j_2) - 1)) ?_
    have hPc := hP.sub (ws' := [(m1, .inl (km1, 93, .inl nw))]) [1] rfl
    have hKc := hK.sub (tys' := [(km1, .int)]) [0] rfl
    have hDc := hD.sub (ws' := [(m1, .inl (km1, 93, .inl nw))]) [1] (by decide) rfl
    have hFc := va_free (wc := [(m1, .inl (km1, 93, .inl nw))]) hD hS hA [1] rfl
    refine va_callv (va_runS (As := [.ref m1, .int (nI ((8 + (5 * j_2)) + 5)), .ref m1, .int (nI (8 + (5 * j_2))), .int (nI (5 * ((c_3 - j_2) - 1)))]) (rest := []) ⟨hx, hb, hml, hown, hts⟩ (c_X4_bring_s l dC dI m1 km1 H.size 93 nw ((8 + (5 * j_2)) + 5) (8 + (5 * j_2)) (5 * ((c_3 - j_2) - 1))  (by first | assumption | omega) (by first | assumption | omega) (by first | assumption | omega)) (va_cwS 5 hts gX4_drop_X4_bring rfl rfl rfl (by decide +kernel) ⟨Nat.le_of_ble_eq_true rfl, Nat.le_of_ble_eq_true rfl⟩) ⟨fun a U g mk q => by obtain ⟨q0, q1, qP, qK, qD⟩ := q; exact ⟨q0, q1, qP, va_K.moved (u := U) (U := U.calling g mk a) (Vm.Alike.refl U.vm) qK, qD⟩, fun U hU hW => ⟨rfl, by rw [hU], by rw [hU]; exact hPc, va_K.moved hW.alike hKc, hDc.weaken (fun _ _ _ _ => trivial)⟩⟩ rfl rfl hl.1 rfl (lv_room (Nat.le_of_ble_eq_true rfl)) dX4_drop_52 ⟨Nat.le_of_ble_eq_true rfl, Nat.le_of_ble_eq_true rfl⟩) hS (fun q _ h => hFc q h) hFc (fun u9 t9 H1 locs ht hvm hw hB hz1 hk1 hS => ?_)
    refine W.widen (k := 0) (n := 0) (Nat.le_of_ble_eq_true rfl) (Nat.le_of_ble_eq_true rfl) ?_
    obtain ⟨⟩ := u9
    obtain ⟨ff_10, h_11, hP1, hK1, hD1⟩ := hB
    rw [ht] at hP1
    obtain ⟨hP, hD⟩ := va_join (wr := [(m0, .inr (4, [.ref m1, .ref m2, .int (nI bk_5), .ref m3, .ref m4, .ref m5, .ref m6, .int sd, .ref m7, .ref m8, .int cl, .int pc, .int op])), (m2, .inl (km2, 93, .inl ws)), (m3, .inl (km3, 3720, .inl bc_6)), (m4, .inl (km4, 186, .inl im)), (m5, .inl (km5, 2, .inl isd)), (m6, .inl (km6, 2, .inl kp)), (m7, .inl (km7, 1525, .inl vl)), (m8, .inl (km8, 24, .inl pl))]) (w1 := [(m1, .inl (km1, 93, .inl ff_10))]) hP hD [1] [0, 2, 3, 4, 5, 6, 7, 8] rfl rfl (by decide) (by decide) hk1 hFc hP1 hD1
    clear hPc hDc hKc hFc hz1 hk1 ht hvm hP1 hK1 hD1 hw t9
    generalize H1 = H at hP hS ⊢
    have hP := hP.sub (ws' := [(m0, .inr (4, [.ref m1, .ref m2, .int (nI bk_5), .ref m3, .ref m4, .ref m5, .ref m6, .int sd, .ref m7, .ref m8, .int cl, .int pc, .int op])), (m1, .inl (km1, 93, .inl ff_10)), (m2, .inl (km2, 93, .inl ws)), (m3, .inl (km3, 3720, .inl bc_6)), (m4, .inl (km4, 186, .inl im)), (m5, .inl (km5, 2, .inl isd)), (m6, .inl (km6, 2, .inl kp)), (m7, .inl (km7, 1525, .inl vl)), (m8, .inl (km8, 24, .inl pl))]) [0, 8, 1, 2, 3, 4, 5, 6, 7] rfl
    have hD := hD.sub (ws' := [(m0, .inr (4, [.ref m1, .ref m2, .int (nI bk_5), .ref m3, .ref m4, .ref m5, .ref m6, .int sd, .ref m7, .ref m8, .int cl, .int pc, .int op])), (m1, .inl (km1, 93, .inl ff_10)), (m2, .inl (km2, 93, .inl ws)), (m3, .inl (km3, 3720, .inl bc_6)), (m4, .inl (km4, 186, .inl im)), (m5, .inl (km5, 2, .inl isd)), (m6, .inl (km6, 2, .inl kp)), (m7, .inl (km7, 1525, .inl vl)), (m8, .inl (km8, 24, .inl pl))]) [0, 8, 1, 2, 3, 4, 5, 6, 7] (by decide) rfl
    have hfar := fa_cpy h_11 (by omega) (by omega)
    have hokg : okN ff_10 := okN_far i1 hfar
    refine lv_iconst (v := nI 0) hx hb dX4_drop_55 (by decide) ?_
    refine lv_istore_n (lv' := [(3, .int (nI 0)), (2, .int (nI c_3)), (0, .ref m0), (1, .int (nI j_2))]) hx hb dX4_drop_56 rfl hl (by decide) rfl (fun ls hl => ?_)
    have L57 : ∀ (n : Nat) (i : Nat) (nwv : Nat → Int32) (H : Heap) (locs : List Loc) (ls : Array Slot), i ≤ 5 → okN nwv → nwv 7 = nI c_3 → 5 - i < n → va_P (dC, dI) vwCl [(m0, .inr (4, [.ref m1, .ref m2, .int (nI bk_5), .ref m3, .ref m4, .ref m5, .ref m6, .int sd, .ref m7, .ref m8, .int cl, .int pc, .int op])), (m1, .inl (km1, 93, .inl nwv)), (m2, .inl (km2, 93, .inl ws)), (m3, .inl (km3, 3720, .inl bc_6)), (m4, .inl (km4, 186, .inl im)), (m5, .inl (km5, 2, .inl isd)), (m6, .inl (km6, 2, .inl kp)), (m7, .inl (km7, 1525, .inl vl)), (m8, .inl (km8, 24, .inl pl))] H → va_D A [(m0, .inr (4, [.ref m1, .ref m2, .int (nI bk_5), .ref m3, .ref m4, .ref m5, .ref m6, .int sd, .ref m7, .ref m8, .int cl, .int pc, .int op])), (m1, .inl (km1, 93, .inl nwv)), (m2, .inl (km2, 93, .inl ws)), (m3, .inl (km3, 3720, .inl bc_6)), (m4, .inl (km4, 186, .inl im)), (m5, .inl (km5, 2, .inl isd)), (m6, .inl (km6, 2, .inl kp)), (m7, .inl (km7, 1525, .inl vl)), (m8, .inl (km8, 24, .inl pl))] → va_S A s.heap H locs → lv_has ls 4 [(0, .ref m0), (2, .int (nI c_3)), (3, .int (nI i))] → W p l e (headSpec wsX4_drop { frames := 7, cells := 0, slots := 0, locals := 162 }).room s m args below meth c H locs 0 0 Q (F0 m 57 ls []) := by
      intro n
      induction n with
      | zero => intro i nwv H locs ls hL57_0 hL57_1 hL57_2 hn; exact absurd hn (Nat.not_lt_zero _)
      | succ n ih57 =>
        intro i nwv H locs ls hL57_0 hL57_1 hL57_2 hn hP hD hS hl
        refine lv_iload_n hx hb dX4_drop_57 rfl (lv_at hl 2 rfl) ?_
        refine lv_iconst (v := nI 5) hx hb dX4_drop_58 (by decide) ?_
        refine lv_icmp_ge (tgt := 84) hx hb dX4_drop_59 (by decide) (fun c_59 => ?_) (fun c_59 => ?_)
        · have c_59 := (nI_leI (by omega : 5 < 2 ^ 31) (by omega : i < 2 ^ 31)).mp c_59
          refine lv_aload_n hx hb dX4_drop_84 rfl (lv_at hl 0 rfl) ?_
          refine va_get (D := (dC, dI)) (ci := 4) (v := .ref m1) (C := RX4) (T := TX4) (N := 13) hx hb hts inX4 hown hK hP 0 rfl rfl 0 (by decide) (hts (.fieldLink RX4 7 "StoreSlopesModel" "now" "[I") (List.mem_of_getElem? (i := 2) rfl)) (fun _ h9 => h9) rfl dX4_drop_85 ?_
          refine lv_bipush (v := nI 7) hx hb dX4_drop_88 (by decide) ?_
          refine lv_dup2_11 hx hb dX4_drop_90 rfl rfl ?_
          refine va_iald hx hb hK hP 1 0 rfl rfl (vp_in_nI (show 7 < 93 by omega) (by omega)) dX4_drop_91 ?_
          refine tp_as (cl_as (by omega) hL57_2) ?_
          refine lv_iconst (v := nI 1) hx hb dX4_drop_92 (by decide) ?_
          refine lv_isub hx hb dX4_drop_93 ?_
          refine tp_as (pk_sub (a := c_3) (b := 1) (by omega)) ?_
          refine va_iast hx hb hK hP hD hS 1 0 rfl rfl (vp_in_nI (show 7 < 93 by omega) (by omega)) dX4_drop_94 (fun H locs hP hD hS => ?_)
          have hP : va_P (dC, dI) vwCl [(m0, .inr (4, [.ref m1, .ref m2, .int (nI bk_5), .ref m3, .ref m4, .ref m5, .ref m6, .int sd, .ref m7, .ref m8, .int cl, .int pc, .int op])), (m1, .inl (km1, 93, .inl (upd nwv (nI 7).toNatClampNeg (nI (c_3 - 1))))), (m2, .inl (km2, 93, .inl ws)), (m3, .inl (km3, 3720, .inl bc_6)), (m4, .inl (km4, 186, .inl im)), (m5, .inl (km5, 2, .inl isd)), (m6, .inl (km6, 2, .inl kp)), (m7, .inl (km7, 1525, .inl vl)), (m8, .inl (km8, 24, .inl pl))] H := hP
          have hD : va_D A [(m0, .inr (4, [.ref m1, .ref m2, .int (nI bk_5), .ref m3, .ref m4, .ref m5, .ref m6, .int sd, .ref m7, .ref m8, .int cl, .int pc, .int op])), (m1, .inl (km1, 93, .inl (upd nwv (nI 7).toNatClampNeg (nI (c_3 - 1))))), (m2, .inl (km2, 93, .inl ws)), (m3, .inl (km3, 3720, .inl bc_6)), (m4, .inl (km4, 186, .inl im)), (m5, .inl (km5, 2, .inl isd)), (m6, .inl (km6, 2, .inl kp)), (m7, .inl (km7, 1525, .inl vl)), (m8, .inl (km8, 24, .inl pl))] := hD
          generalize ef_12 : upd nwv (nI 7).toNatClampNeg (nI (c_3 - 1)) = f_12 at hP hD
          have bf_12 : okN f_12 := okN_upd (by assumption) ef_12 (by omega) (by refine ⟨fun q => ?_, fun q => ?_, fun q => ?_, fun q => ?_, fun q => ?_, fun q q2 => ?_⟩ <;> first | (exfalso; omega) | exact ⟨_, by omega, rfl⟩)
          clear ef_12
          refine lv_aload_n hx hb dX4_drop_95 rfl (lv_at hl 0 rfl) ?_
          have hPc := hP.sub (ws' := [(m0, .inr (4, [.ref m1, .ref m2, .int (nI bk_5), .ref m3, .ref m4, .ref m5, .ref m6, .int sd, .ref m7, .ref m8, .int cl, .int pc, .int op])), (m1, .inl (km1, 93, .inl f_12)), (m7, .inl (km7, 1525, .inl vl))]) [0, 1, 7] rfl
          have hKc := hK.sub (tys' := [(km1, .int), (km7, .int)]) [0, 6] rfl
          have hDc := hD.sub (ws' := [(m0, .inr (4, [.ref m1, .ref m2, .int (nI bk_5), .ref m3, .ref m4, .ref m5, .ref m6, .int sd, .ref m7, .ref m8, .int cl, .int pc, .int op])), (m1, .inl (km1, 93, .inl f_12)), (m7, .inl (km7, 1525, .inl vl))]) [0, 1, 7] (by decide) rfl
          have hFc := va_free (wc := [(m0, .inr (4, [.ref m1, .ref m2, .int (nI bk_5), .ref m3, .ref m4, .ref m5, .ref m6, .int sd, .ref m7, .ref m8, .int cl, .int pc, .int op])), (m1, .inl (km1, 93, .inl f_12)), (m7, .inl (km7, 1525, .inl vl))]) hD hS hA [0, 1, 7] rfl
          refine va_calli (va_runV (As := []) (rest := []) ⟨hx, hb, hml, hown, hts⟩ (c_X4_bestOf l dC dI m0 m1 m7 m2 m3 m4 m5 m6 m8 km1 km7 H.size bk_5 sd cl pc op f_12 vl  (by first | assumption | omega) (by first | assumption | omega) ) (cwV 0 hts gX4_drop_X4_bestOf rfl rfl rfl (by decide +kernel) ⟨Nat.le_of_ble_eq_true rfl, Nat.le_of_ble_eq_true rfl⟩) ⟨fun a U g mk q => by obtain ⟨q0, q1, qP, qK, qD⟩ := q; exact ⟨q0, q1, qP, va_K.moved (u := U) (U := U.calling g mk a) (Vm.Alike.refl U.vm) qK, qD⟩, va_recv hKc hPc (ci := 4) (q0 := 0) rfl rfl, fun U hU hW => ⟨rfl, by rw [hU], by rw [hU]; exact hPc, va_K.moved hW.alike hKc, hDc.weaken (fun _ _ _ _ => trivial)⟩⟩ rfl rfl hl.1 rfl (lv_room (Nat.le_of_ble_eq_true rfl)) dX4_drop_96 ⟨Nat.le_of_ble_eq_true rfl, Nat.le_of_ble_eq_true rfl⟩) hS (fun q _ h => hFc q h) hFc (fun r_13 u9 t9 H1 locs ht hvm hw hB hz1 hk1 hS => ?_)
          refine W.widen (k := 0) (n := 0) (Nat.le_of_ble_eq_true rfl) (Nat.le_of_ble_eq_true rfl) ?_
          obtain ⟨vl_14, h_15, h_16, hP1, hK1, hD1⟩ := hB
          rw [ht] at hP1
          have hw := hw.symm
          subst hw
          obtain ⟨hP, hD⟩ := va_join (wr := [(m2, .inl (km2, 93, .inl ws)), (m3, .inl (km3, 3720, .inl bc_6)), (m4, .inl (km4, 186, .inl im)), (m5, .inl (km5, 2, .inl isd)), (m6, .inl (km6, 2, .inl kp)), (m8, .inl (km8, 24, .inl pl))]) (w1 := [(m0, .inr (4, [.ref m1, .ref m2, .int (nI bk_5), .ref m3, .ref m4, .ref m5, .ref m6, .int sd, .ref m7, .ref m8, .int cl, .int pc, .int op])), (m1, .inl (km1, 93, .inl f_12)), (m7, .inl (km7, 1525, .inl vl_14))]) hP hD [0, 1, 7] [2, 3, 4, 5, 6, 8] rfl rfl (by decide) (by decide) hk1 hFc hP1 hD1
          clear hPc hDc hKc hFc hz1 hk1 ht hvm hP1 hK1 hD1 t9
          generalize H1 = H at hP hS ⊢
          have hP := hP.sub (ws' := [(m0, .inr (4, [.ref m1, .ref m2, .int (nI bk_5), .ref m3, .ref m4, .ref m5, .ref m6, .int sd, .ref m7, .ref m8, .int cl, .int pc, .int op])), (m1, .inl (km1, 93, .inl f_12)), (m2, .inl (km2, 93, .inl ws)), (m3, .inl (km3, 3720, .inl bc_6)), (m4, .inl (km4, 186, .inl im)), (m5, .inl (km5, 2, .inl isd)), (m6, .inl (km6, 2, .inl kp)), (m7, .inl (km7, 1525, .inl vl_14)), (m8, .inl (km8, 24, .inl pl))]) [6, 7, 0, 1, 2, 3, 4, 8, 5] rfl
          have hD := hD.sub (ws' := [(m0, .inr (4, [.ref m1, .ref m2, .int (nI bk_5), .ref m3, .ref m4, .ref m5, .ref m6, .int sd, .ref m7, .ref m8, .int cl, .int pc, .int op])), (m1, .inl (km1, 93, .inl f_12)), (m2, .inl (km2, 93, .inl ws)), (m3, .inl (km3, 3720, .inl bc_6)), (m4, .inl (km4, 186, .inl im)), (m5, .inl (km5, 2, .inl isd)), (m6, .inl (km6, 2, .inl kp)), (m7, .inl (km7, 1525, .inl vl_14)), (m8, .inl (km8, 24, .inl pl))]) [6, 7, 0, 1, 2, 3, 4, 8, 5] (by decide) rfl
          refine va_calli (va_runS (As := [.int r_13]) (rest := []) ⟨hx, hb, hml, hown, hts⟩ (c_X4_shown l dC dI   r_13  ) (va_cwS 1 hts gX4_drop_X4_shown rfl rfl rfl (by decide +kernel) ⟨Nat.le_of_ble_eq_true rfl, Nat.le_of_ble_eq_true rfl⟩) ⟨fun a U g mk q => q, fun U hU hW => ⟨rfl, trivial⟩⟩ rfl rfl hl.1 rfl (lv_room (Nat.le_of_ble_eq_true rfl)) dX4_drop_99 ⟨Nat.le_of_ble_eq_true rfl, Nat.le_of_ble_eq_true rfl⟩) hS (fun q _ h => h.elim) (fun q h => h.elim) (fun r_18 u9 t9 H1 locs ht hvm hw hB hz1 hk1 hS => ?_)
          refine W.widen (k := 0) (n := 0) (Nat.le_of_ble_eq_true rfl) (Nat.le_of_ble_eq_true rfl) ?_
          have hP := hP.kept (H1 := H1) (fun k q hk => hk1 q.1 (hP k q hk).lt (fun h => h))
          clear hz1 hk1 hB ht hvm t9
          generalize H1 = H at hP hS ⊢
          have hP : va_P (dC, dI) vwCl [(m0, .inr (4, [.ref m1, .ref m2, .int (nI bk_5), .ref m3, .ref m4, .ref m5, .ref m6, .int sd, .ref m7, .ref m8, .int cl, .int pc, .int op])), (m1, .inl (km1, 93, .inl f_12)), (m2, .inl (km2, 93, .inl ws)), (m3, .inl (km3, 3720, .inl bc_6)), (m4, .inl (km4, 186, .inl im)), (m5, .inl (km5, 2, .inl isd)), (m6, .inl (km6, 2, .inl kp)), (m7, .inl (km7, 1525, .inl vl_14)), (m8, .inl (km8, 24, .inl pl))] H := hP
          clear hw
          subst hQe
          have hP9 := hP.sub (ws' := [(m0, .inr (4, [.ref m1, .ref m2, .int (nI bk_5), .ref m3, .ref m4, .ref m5, .ref m6, .int sd, .ref m7, .ref m8, .int cl, .int pc, .int op])), (m1, .inl (km1, 93, .inl f_12)), (m2, .inl (km2, 93, .inl ws)), (m3, .inl (km3, 3720, .inl bc_6)), (m4, .inl (km4, 186, .inl im)), (m5, .inl (km5, 2, .inl isd)), (m6, .inl (km6, 2, .inl kp)), (m7, .inl (km7, 1525, .inl vl_14)), (m8, .inl (km8, 24, .inl pl))]) [0, 1, 2, 3, 4, 5, 6, 7, 8] rfl
          have hD9 := hD.sub (ws' := [(m0, .inr (4, [.ref m1, .ref m2, .int (nI bk_5), .ref m3, .ref m4, .ref m5, .ref m6, .int sd, .ref m7, .ref m8, .int cl, .int pc, .int op])), (m1, .inl (km1, 93, .inl f_12)), (m2, .inl (km2, 93, .inl ws)), (m3, .inl (km3, 3720, .inl bc_6)), (m4, .inl (km4, 186, .inl im)), (m5, .inl (km5, 2, .inl isd)), (m6, .inl (km6, 2, .inl kp)), (m7, .inl (km7, 1525, .inl vl_14)), (m8, .inl (km8, 24, .inl pl))]) [0, 1, 2, 3, 4, 5, 6, 7, 8] (by decide) rfl
          have hK9 := hK.sub (tys' := [(km1, .int), (km2, .int), (km3, .int), (km4, .int), (km5, .int), (km6, .boolean), (km7, .int), (km8, .int)]) [0, 1, 2, 3, 4, 5, 6, 7] rfl
          subst hAe
          exact W.iret (v := r_18) hx hb hr (fun t ht hW => ⟨⟨_, _, rfl, rfl, bk_5, sd, cl, pc, op, f_12, ws, bc_6, im, isd, vl_14, pl, (by first | assumption | omega), (by first | assumption | omega), (by first | assumption | omega), (by first | assumption | omega), (by first | assumption | omega), by rw [ht]; exact hP9, va_K.moved hW.alike hK9, hD9⟩, hS.F ht⟩) hS.2.2 dX4_drop_102
        · have c_59 := (not_congr (nI_leI (by omega : 5 < 2 ^ 31) (by omega : i < 2 ^ 31))).mp c_59
          refine lv_aload_n hx hb dX4_drop_62 rfl (lv_at hl 0 rfl) ?_
          refine va_get (D := (dC, dI)) (ci := 4) (v := .ref m1) (C := RX4) (T := TX4) (N := 13) hx hb hts inX4 hown hK hP 0 rfl rfl 0 (by decide) (hts (.fieldLink RX4 7 "StoreSlopesModel" "now" "[I") (List.mem_of_getElem? (i := 2) rfl)) (fun _ h9 => h9) rfl dX4_drop_63 ?_
          refine lv_bipush (v := nI 8) hx hb dX4_drop_66 (by decide) ?_
          refine lv_iconst (v := nI 5) hx hb dX4_drop_68 (by decide) ?_
          refine lv_iload_n hx hb dX4_drop_69 rfl (lv_at hl 1 rfl) ?_
          refine lv_iconst (v := nI 1) hx hb dX4_drop_70 (by decide) ?_
          refine lv_isub hx hb dX4_drop_71 ?_
          refine tp_as (pk_sub (a := c_3) (b := 1) (by omega)) ?_
          refine lv_imul hx hb dX4_drop_72 ?_
          refine tp_as (pk_mul 5 (c_3 - 1)) ?_
          refine lv_iadd hx hb dX4_drop_73 ?_
          refine tp_as (nI_add 8 (5 * (c_3 - 1))) ?_
          refine lv_iload_n hx hb dX4_drop_74 rfl (lv_at hl 2 rfl) ?_
          refine lv_iadd hx hb dX4_drop_75 ?_
          refine tp_as (nI_add (8 + (5 * (c_3 - 1))) i) ?_
          refine lv_iconst (v := nI 0) hx hb dX4_drop_76 (by decide) ?_
          refine va_iast hx hb hK hP hD hS 1 0 rfl rfl (vp_in_nI (show (8 + (5 * (c_3 - 1))) + i < 93 by omega) (by omega)) dX4_drop_77 (fun H locs hP hD hS => ?_)
          have hP : va_P (dC, dI) vwCl [(m0, .inr (4, [.ref m1, .ref m2, .int (nI bk_5), .ref m3, .ref m4, .ref m5, .ref m6, .int sd, .ref m7, .ref m8, .int cl, .int pc, .int op])), (m1, .inl (km1, 93, .inl (upd nwv (nI ((8 + (5 * (c_3 - 1))) + i)).toNatClampNeg (nI 0)))), (m2, .inl (km2, 93, .inl ws)), (m3, .inl (km3, 3720, .inl bc_6)), (m4, .inl (km4, 186, .inl im)), (m5, .inl (km5, 2, .inl isd)), (m6, .inl (km6, 2, .inl kp)), (m7, .inl (km7, 1525, .inl vl)), (m8, .inl (km8, 24, .inl pl))] H := hP
          have hD : va_D A [(m0, .inr (4, [.ref m1, .ref m2, .int (nI bk_5), .ref m3, .ref m4, .ref m5, .ref m6, .int sd, .ref m7, .ref m8, .int cl, .int pc, .int op])), (m1, .inl (km1, 93, .inl (upd nwv (nI ((8 + (5 * (c_3 - 1))) + i)).toNatClampNeg (nI 0)))), (m2, .inl (km2, 93, .inl ws)), (m3, .inl (km3, 3720, .inl bc_6)), (m4, .inl (km4, 186, .inl im)), (m5, .inl (km5, 2, .inl isd)), (m6, .inl (km6, 2, .inl kp)), (m7, .inl (km7, 1525, .inl vl)), (m8, .inl (km8, 24, .inl pl))] := hD
          generalize ef_19 : upd nwv (nI ((8 + (5 * (c_3 - 1))) + i)).toNatClampNeg (nI 0) = f_19 at hP hD
          have bf_19 : okN f_19 := okN_upd (by assumption) ef_19 (by omega) (by refine ⟨fun q => ?_, fun q => ?_, fun q => ?_, fun q => ?_, fun q => ?_, fun q q2 => ?_⟩ <;> first | (exfalso; omega) | exact ⟨_, by omega, rfl⟩)
          have s7_f_19 : f_19 7 = nwv 7 := upd_at ef_19 (by omega) (by omega)
          clear ef_19
          have hk7 : f_19 7 = nI c_3 := s7_f_19.trans hL57_2
          refine lv_iinc (v := nI (i + 1)) (lv' := [(3, .int (nI (i + 1))), (0, .ref m0), (2, .int (nI c_3))]) hx hb dX4_drop_78 hl (k := 2) rfl (inc_n i 1) (by decide) rfl (fun ls hl => ?_)
          refine lv_goto (tgt := 57) hx hb dX4_drop_81 (by decide) ?_
          exact ih57 (i + 1) f_19 _ _ _ (by first | assumption | omega) (by first | assumption | omega) (by assumption) (by omega) hP hD hS (lv_sub hl [1, 2, 0] rfl)
    exact L57 (5 - 0 + 1) 0 ff_10 _ _ _ (by first | assumption | omega) (by first | assumption | omega) ((hfar 7 (Or.inl (by omega))).trans ec_3) (Nat.lt_succ_self _) hP hD hS (lv_sub hl [2, 1, 0] rfl)
  · refine lv_ldc (own := RX4) (v := (-1000000001)) hx hb hown (hts (.constant RX4 109 (-1000000001)) (List.mem_of_getElem? (i := 1) rfl)) dX4_drop_8 ?_
    subst hQe
    have hP9 := hP.sub (ws' := [(m0, .inr (4, [.ref m1, .ref m2, .int (nI bk), .ref m3, .ref m4, .ref m5, .ref m6, .int sd, .ref m7, .ref m8, .int cl, .int pc, .int op])), (m1, .inl (km1, 93, .inl nw)), (m2, .inl (km2, 93, .inl ws)), (m3, .inl (km3, 3720, .inl bc)), (m4, .inl (km4, 186, .inl im)), (m5, .inl (km5, 2, .inl isd)), (m6, .inl (km6, 2, .inl kp)), (m7, .inl (km7, 1525, .inl vl)), (m8, .inl (km8, 24, .inl pl))]) [0, 1, 2, 3, 4, 5, 6, 7, 8] rfl
    have hD9 := hD.sub (ws' := [(m0, .inr (4, [.ref m1, .ref m2, .int (nI bk), .ref m3, .ref m4, .ref m5, .ref m6, .int sd, .ref m7, .ref m8, .int cl, .int pc, .int op])), (m1, .inl (km1, 93, .inl nw)), (m2, .inl (km2, 93, .inl ws)), (m3, .inl (km3, 3720, .inl bc)), (m4, .inl (km4, 186, .inl im)), (m5, .inl (km5, 2, .inl isd)), (m6, .inl (km6, 2, .inl kp)), (m7, .inl (km7, 1525, .inl vl)), (m8, .inl (km8, 24, .inl pl))]) [0, 1, 2, 3, 4, 5, 6, 7, 8] (by decide) rfl
    have hK9 := hK.sub (tys' := [(km1, .int), (km2, .int), (km3, .int), (km4, .int), (km5, .int), (km6, .boolean), (km7, .int), (km8, .int)]) [0, 1, 2, 3, 4, 5, 6, 7] rfl
    subst hAe
    exact W.iret (v := ((-1000000001))) hx hb hr (fun t ht hW => ⟨⟨_, _, rfl, rfl, bk, sd, cl, pc, op, nw, ws, bc, im, isd, vl, pl, (by first | assumption | omega), (by first | assumption | omega), (by first | assumption | omega), (by first | assumption | omega), (by first | assumption | omega), by rw [ht]; exact hP9, va_K.moved hW.alike hK9, hD9⟩, hS.F ht⟩) hS.2.2 dX4_drop_10
set_option maxHeartbeats 4000000 in
set_option maxRecDepth 100000 in
theorem c_X4_done (l : Launch) (dC : Nat → ClassId) (dI : Nat → Nat → Nat) (m0 m1 m2 m3 m4 m5 m6 m7 m8 : Nat) (km1 km2 km3 km4 km5 km6 km7 km8 : ClassId) (sz : Nat) (bk : Nat) (sd : Int32) (cl : Int32) (pc : Int32) (op : Int32) (nw : Nat → Int32) (ws : Nat → Int32) (bc : Nat → Int32) (im : Nat → Int32) (isd : Nat → Int32) (kp : Nat → Int32) (vl : Nat → Int32) (pl : Nat → Int32) (i0 : bk ≤ 40) (i1 : okN nw) (i2 : okB 40 bc) (i3 : okB 2 im) (i4 : bdA 60 24 pl) : Met l yX4_done wsX4_done ({ frames := 8, cells := 0, slots := 0, locals := 186 }) (va_Pc [.ref m0] (fun U => U.heap.size = sz ∧ va_P (dC, dI) vwCl [(m0, .inr (4, [.ref m1, .ref m2, .int (nI bk), .ref m3, .ref m4, .ref m5, .ref m6, .int sd, .ref m7, .ref m8, .int cl, .int pc, .int op])), (m1, .inl (km1, 93, .inl nw)), (m2, .inl (km2, 93, .inl ws)), (m3, .inl (km3, 3720, .inl bc)), (m4, .inl (km4, 186, .inl im)), (m5, .inl (km5, 2, .inl isd)), (m6, .inl (km6, 2, .inl kp)), (m7, .inl (km7, 1525, .inl vl)), (m8, .inl (km8, 24, .inl pl))] U.heap ∧ va_K (dC, dI) vwCl [(km1, .int), (km2, .int), (km3, .int), (km4, .int), (km5, .int), (km6, .boolean), (km7, .int), (km8, .int)] U ∧ va_D (fun _ => True) [(m0, .inr (4, [.ref m1, .ref m2, .int (nI bk), .ref m3, .ref m4, .ref m5, .ref m6, .int sd, .ref m7, .ref m8, .int cl, .int pc, .int op])), (m1, .inl (km1, 93, .inl nw)), (m2, .inl (km2, 93, .inl ws)), (m3, .inl (km3, 3720, .inl bc)), (m4, .inl (km4, 186, .inl im)), (m5, .inl (km5, 2, .inl isd)), (m6, .inl (km6, 2, .inl kp)), (m7, .inl (km7, 1525, .inl vl)), (m8, .inl (km8, 24, .inl pl))])) (va_Qi (fun (r u : Int32) => u = r) (fun r t => ∃ (bk' : Nat) (sd' : Int32) (cl' : Int32) (pc' : Int32) (op' : Int32) (nw' : Nat → Int32) (ws' : Nat → Int32) (bc' : Nat → Int32) (im' : Nat → Int32) (isd' : Nat → Int32) (vl' : Nat → Int32) (pl' : Nat → Int32), bk' ≤ 40 ∧ okN nw' ∧ okB 40 bc' ∧ okB 2 im' ∧ bdA 60 24 pl' ∧ va_P (dC, dI) vwCl [(m0, .inr (4, [.ref m1, .ref m2, .int (nI bk'), .ref m3, .ref m4, .ref m5, .ref m6, .int sd', .ref m7, .ref m8, .int cl', .int pc', .int op'])), (m1, .inl (km1, 93, .inl nw')), (m2, .inl (km2, 93, .inl ws')), (m3, .inl (km3, 3720, .inl bc')), (m4, .inl (km4, 186, .inl im')), (m5, .inl (km5, 2, .inl isd')), (m6, .inl (km6, 2, .inl kp)), (m7, .inl (km7, 1525, .inl vl')), (m8, .inl (km8, 24, .inl pl'))] t.heap ∧ va_K (dC, dI) vwCl [(km1, .int), (km2, .int), (km3, .int), (km4, .int), (km5, .int), (km6, .boolean), (km7, .int), (km8, .int)] t ∧ va_D (va_A [(m0, .inr (4, [.ref m1, .ref m2, .int (nI bk), .ref m3, .ref m4, .ref m5, .ref m6, .int sd, .ref m7, .ref m8, .int cl, .int pc, .int op])), (m1, .inl (km1, 93, .inl nw)), (m2, .inl (km2, 93, .inl ws)), (m3, .inl (km3, 3720, .inl bc)), (m4, .inl (km4, 186, .inl im)), (m5, .inl (km5, 2, .inl isd)), (m6, .inl (km6, 2, .inl kp)), (m7, .inl (km7, 1525, .inl vl)), (m8, .inl (km8, 24, .inl pl))] sz) [(m0, .inr (4, [.ref m1, .ref m2, .int (nI bk'), .ref m3, .ref m4, .ref m5, .ref m6, .int sd', .ref m7, .ref m8, .int cl', .int pc', .int op'])), (m1, .inl (km1, 93, .inl nw')), (m2, .inl (km2, 93, .inl ws')), (m3, .inl (km3, 3720, .inl bc')), (m4, .inl (km4, 186, .inl im')), (m5, .inl (km5, 2, .inl isd')), (m6, .inl (km6, 2, .inl kp)), (m7, .inl (km7, 1525, .inl vl')), (m8, .inl (km8, 24, .inl pl'))]) (va_A [(m0, .inr (4, [.ref m1, .ref m2, .int (nI bk), .ref m3, .ref m4, .ref m5, .ref m6, .int sd, .ref m7, .ref m8, .int cl, .int pc, .int op])), (m1, .inl (km1, 93, .inl nw)), (m2, .inl (km2, 93, .inl ws)), (m3, .inl (km3, 3720, .inl bc)), (m4, .inl (km4, 186, .inl im)), (m5, .inl (km5, 2, .inl isd)), (m6, .inl (km6, 2, .inl kp)), (m7, .inl (km7, 1525, .inl vl)), (m8, .inl (km8, 24, .inl pl))] sz)) 0 0 (va_A [(m0, .inr (4, [.ref m1, .ref m2, .int (nI bk), .ref m3, .ref m4, .ref m5, .ref m6, .int sd, .ref m7, .ref m8, .int cl, .int pc, .int op])), (m1, .inl (km1, 93, .inl nw)), (m2, .inl (km2, 93, .inl ws)), (m3, .inl (km3, 3720, .inl bc)), (m4, .inl (km4, 186, .inl im)), (m5, .inl (km5, 2, .inl isd)), (m6, .inl (km6, 2, .inl kp)), (m7, .inl (km7, 1525, .inl vl)), (m8, .inl (km8, 24, .inl pl))] sz) := by
  refine Met.ofW (cc := cX4_done) (maxL := 3) (ret := (some .int)) (by decide) rfl ?_
  intro p e s m args below meth c s₁ B hml hv
  obtain ⟨rfl, hsz, hP, hK, hD0⟩ := hv
  have hx := B.exec
  have hb := B.bytes
  have hr := B.returns
  have hts := atoms_spec (ws := wsX4_done) B.pre
  have hown : s.vm.findClass RX4 = some m.cls := findClass_of_methodNamed B.named
  have hlocks := B.notSynchronized
  have inX4 : ∀ w ∈ wsX40, w ∈ wsX4_done := fun _ h => List.mem_cons_of_mem _ (List.mem_append_right _ h)
  subst hsz
  have hD := hD0.self (sz := s.heap.size)
  generalize hAe : va_A [(m0, .inr (4, [.ref m1, .ref m2, .int (nI bk), .ref m3, .ref m4, .ref m5, .ref m6, .int sd, .ref m7, .ref m8, .int cl, .int pc, .int op])), (m1, .inl (km1, 93, .inl nw)), (m2, .inl (km2, 93, .inl ws)), (m3, .inl (km3, 3720, .inl bc)), (m4, .inl (km4, 186, .inl im)), (m5, .inl (km5, 2, .inl isd)), (m6, .inl (km6, 2, .inl kp)), (m7, .inl (km7, 1525, .inl vl)), (m8, .inl (km8, 24, .inl pl))] s.heap.size = A at hD ⊢
  have hA : ∀ q : Nat, s.heap.size ≤ q → A q := fun q h => by rw [← hAe]; exact Or.inr h
  have hS : va_S A s.heap s.heap [] := va_S.rf
  have hl := lv_entry ([.ref m0]) (n := 3) (Nat.le_of_ble_eq_true rfl)
  rw [lg_entry_eq]
  generalize (lg_sl ([.ref m0]) ++ List.replicate (3 - (lg_sl ([.ref m0])).length) Slot.unset).toArray = ls at hl ⊢
  generalize hQe : MQ below _ _ s 0 0 _ = Q
  generalize ([.ref m0] : List Value).toArray = args at hts hQe ⊢
  have hl : lv_has ls 3 [(0, .ref m0)] := hl
  refine lv_aload_n hx hb dX4_done_0 rfl (lv_at hl 0 rfl) ?_
  refine va_get (D := (dC, dI)) (ci := 4) (v := .ref m1) (C := RX4) (T := TX4) (N := 13) hx hb hts inX4 hown hK hP 0 rfl rfl 0 (by decide) (hts (.fieldLink RX4 7 "StoreSlopesModel" "now" "[I") (List.mem_of_getElem? (i := 1) rfl)) (fun _ h9 => h9) rfl dX4_done_1 ?_
  refine lv_iconst (v := nI 0) hx hb dX4_done_4 (by decide) ?_
  obtain ⟨j_1, hj_1, ej_1⟩ := (show okN nw by assumption).1
  refine va_iald hx hb hK hP 1 0 rfl rfl (vp_in_nI (show 0 < 93 by omega) (by omega)) dX4_done_5 ?_
  refine tp_as (cl_as (by omega) ej_1) ?_
  refine lv_istore_n (lv' := [(1, .int (nI j_1)), (0, .ref m0)]) hx hb dX4_done_6 rfl hl (by decide) rfl (fun ls hl => ?_)
  refine lv_iload_n hx hb dX4_done_7 rfl (lv_at hl 0 rfl) ?_
  refine lv_bipush (v := nI 24) hx hb dX4_done_8 (by decide) ?_
  refine lv_icmp_eq (tgt := 20) hx hb dX4_done_10 (by decide) (fun c_10 => ?_) (fun c_10 => ?_)
  · have c_10 := (nI_eq (by omega : j_1 < 2 ^ 31) (by omega : 24 < 2 ^ 31)).mp c_10
    refine lv_ldc (own := RX4) (v := (-1000000003)) hx hb hown (hts (.constant RX4 139 (-1000000003)) (List.mem_of_getElem? (i := 2) rfl)) dX4_done_20 ?_
    subst hQe
    have hP9 := hP.sub (ws' := [(m0, .inr (4, [.ref m1, .ref m2, .int (nI bk), .ref m3, .ref m4, .ref m5, .ref m6, .int sd, .ref m7, .ref m8, .int cl, .int pc, .int op])), (m1, .inl (km1, 93, .inl nw)), (m2, .inl (km2, 93, .inl ws)), (m3, .inl (km3, 3720, .inl bc)), (m4, .inl (km4, 186, .inl im)), (m5, .inl (km5, 2, .inl isd)), (m6, .inl (km6, 2, .inl kp)), (m7, .inl (km7, 1525, .inl vl)), (m8, .inl (km8, 24, .inl pl))]) [0, 1, 2, 3, 4, 5, 6, 7, 8] rfl
    have hD9 := hD.sub (ws' := [(m0, .inr (4, [.ref m1, .ref m2, .int (nI bk), .ref m3, .ref m4, .ref m5, .ref m6, .int sd, .ref m7, .ref m8, .int cl, .int pc, .int op])), (m1, .inl (km1, 93, .inl nw)), (m2, .inl (km2, 93, .inl ws)), (m3, .inl (km3, 3720, .inl bc)), (m4, .inl (km4, 186, .inl im)), (m5, .inl (km5, 2, .inl isd)), (m6, .inl (km6, 2, .inl kp)), (m7, .inl (km7, 1525, .inl vl)), (m8, .inl (km8, 24, .inl pl))]) [0, 1, 2, 3, 4, 5, 6, 7, 8] (by decide) rfl
    have hK9 := hK.sub (tys' := [(km1, .int), (km2, .int), (km3, .int), (km4, .int), (km5, .int), (km6, .boolean), (km7, .int), (km8, .int)]) [0, 1, 2, 3, 4, 5, 6, 7] rfl
    subst hAe
    exact W.iret (v := ((-1000000003))) hx hb hr (fun t ht hW => ⟨⟨_, _, rfl, rfl, bk, sd, cl, pc, op, nw, ws, bc, im, isd, vl, pl, (by first | assumption | omega), (by first | assumption | omega), (by first | assumption | omega), (by first | assumption | omega), (by first | assumption | omega), by rw [ht]; exact hP9, va_K.moved hW.alike hK9, hD9⟩, hS.F ht⟩) hS.2.2 dX4_done_22
  · have c_10 := (not_congr (nI_eq (by omega : j_1 < 2 ^ 31) (by omega : 24 < 2 ^ 31))).mp c_10
    refine lv_aload_n hx hb dX4_done_13 rfl (lv_at hl 1 rfl) ?_
    have hPc := hP.sub (ws' := [(m0, .inr (4, [.ref m1, .ref m2, .int (nI bk), .ref m3, .ref m4, .ref m5, .ref m6, .int sd, .ref m7, .ref m8, .int cl, .int pc, .int op])), (m1, .inl (km1, 93, .inl nw)), (m7, .inl (km7, 1525, .inl vl)), (m8, .inl (km8, 24, .inl pl))]) [0, 1, 7, 8] rfl
    have hKc := hK.sub (tys' := [(km1, .int), (km7, .int), (km8, .int)]) [0, 6, 7] rfl
    have hDc := hD.sub (ws' := [(m0, .inr (4, [.ref m1, .ref m2, .int (nI bk), .ref m3, .ref m4, .ref m5, .ref m6, .int sd, .ref m7, .ref m8, .int cl, .int pc, .int op])), (m1, .inl (km1, 93, .inl nw)), (m7, .inl (km7, 1525, .inl vl)), (m8, .inl (km8, 24, .inl pl))]) [0, 1, 7, 8] (by decide) rfl
    have hFc := va_free (wc := [(m0, .inr (4, [.ref m1, .ref m2, .int (nI bk), .ref m3, .ref m4, .ref m5, .ref m6, .int sd, .ref m7, .ref m8, .int cl, .int pc, .int op])), (m1, .inl (km1, 93, .inl nw)), (m7, .inl (km7, 1525, .inl vl)), (m8, .inl (km8, 24, .inl pl))]) hD hS hA [0, 1, 7, 8] rfl
    refine va_calli (va_runV (As := []) (rest := []) ⟨hx, hb, hml, hown, hts⟩ (c_X4_isPlanned l dC dI m0 m1 m7 m8 m2 m3 m4 m5 m6 km1 km7 km8 s.heap.size bk sd cl pc op nw vl pl  (by first | assumption | omega) (by first | assumption | omega) (by first | assumption | omega) ) (cwV 0 hts gX4_done_X4_isPlanned rfl rfl rfl (by decide +kernel) ⟨Nat.le_of_ble_eq_true rfl, Nat.le_of_ble_eq_true rfl⟩) ⟨fun a U g mk q => by obtain ⟨q0, q1, qP, qK, qD⟩ := q; exact ⟨q0, q1, qP, va_K.moved (u := U) (U := U.calling g mk a) (Vm.Alike.refl U.vm) qK, qD⟩, va_recv hKc hPc (ci := 4) (q0 := 0) rfl rfl, fun U hU hW => ⟨rfl, by rw [hU], by rw [hU]; exact hPc, va_K.moved hW.alike hKc, hDc.weaken (fun _ _ _ _ => trivial)⟩⟩ rfl rfl hl.1 rfl (lv_room (Nat.le_of_ble_eq_true rfl)) dX4_done_14 ⟨Nat.le_of_ble_eq_true rfl, Nat.le_of_ble_eq_true rfl⟩) hS (fun q _ h => hFc q h) hFc (fun r_2 u9 t9 H1 locs ht hvm hw hB hz1 hk1 hS => ?_)
    refine W.widen (k := 0) (n := 0) (Nat.le_of_ble_eq_true rfl) (Nat.le_of_ble_eq_true rfl) ?_
    obtain ⟨vl_3, pl_4, h_5, hP1, hK1, hD1⟩ := hB
    rw [ht] at hP1
    have hw := hw.symm
    subst hw
    obtain ⟨hP, hD⟩ := va_join (wr := [(m2, .inl (km2, 93, .inl ws)), (m3, .inl (km3, 3720, .inl bc)), (m4, .inl (km4, 186, .inl im)), (m5, .inl (km5, 2, .inl isd)), (m6, .inl (km6, 2, .inl kp))]) (w1 := [(m0, .inr (4, [.ref m1, .ref m2, .int (nI bk), .ref m3, .ref m4, .ref m5, .ref m6, .int sd, .ref m7, .ref m8, .int cl, .int pc, .int op])), (m1, .inl (km1, 93, .inl nw)), (m7, .inl (km7, 1525, .inl vl_3)), (m8, .inl (km8, 24, .inl pl_4))]) hP hD [0, 1, 7, 8] [2, 3, 4, 5, 6] rfl rfl (by decide) (by decide) hk1 hFc hP1 hD1
    clear hPc hDc hKc hFc hz1 hk1 ht hvm hP1 hK1 hD1 t9
    generalize H1 = H at hP hS ⊢
    have hP := hP.sub (ws' := [(m0, .inr (4, [.ref m1, .ref m2, .int (nI bk), .ref m3, .ref m4, .ref m5, .ref m6, .int sd, .ref m7, .ref m8, .int cl, .int pc, .int op])), (m1, .inl (km1, 93, .inl nw)), (m2, .inl (km2, 93, .inl ws)), (m3, .inl (km3, 3720, .inl bc)), (m4, .inl (km4, 186, .inl im)), (m5, .inl (km5, 2, .inl isd)), (m6, .inl (km6, 2, .inl kp)), (m7, .inl (km7, 1525, .inl vl_3)), (m8, .inl (km8, 24, .inl pl_4))]) [5, 6, 0, 1, 2, 3, 4, 7, 8] rfl
    have hD := hD.sub (ws' := [(m0, .inr (4, [.ref m1, .ref m2, .int (nI bk), .ref m3, .ref m4, .ref m5, .ref m6, .int sd, .ref m7, .ref m8, .int cl, .int pc, .int op])), (m1, .inl (km1, 93, .inl nw)), (m2, .inl (km2, 93, .inl ws)), (m3, .inl (km3, 3720, .inl bc)), (m4, .inl (km4, 186, .inl im)), (m5, .inl (km5, 2, .inl isd)), (m6, .inl (km6, 2, .inl kp)), (m7, .inl (km7, 1525, .inl vl_3)), (m8, .inl (km8, 24, .inl pl_4))]) [5, 6, 0, 1, 2, 3, 4, 7, 8] (by decide) rfl
    refine lv_if_ne (tgt := 23) hx hb dX4_done_17 (by decide) (fun c_17 => ?_) (fun c_17 => ?_)
    · refine lv_aload_n hx hb dX4_done_23 rfl (lv_at hl 1 rfl) ?_
      refine va_get (D := (dC, dI)) (ci := 4) (v := .ref m1) (C := RX4) (T := TX4) (N := 13) hx hb hts inX4 hown hK hP 0 rfl rfl 0 (by decide) (hts (.fieldLink RX4 7 "StoreSlopesModel" "now" "[I") (List.mem_of_getElem? (i := 1) rfl)) (fun _ h9 => h9) rfl dX4_done_24 ?_
      refine lv_bipush (v := nI 92) hx hb dX4_done_27 (by decide) ?_
      refine va_iald hx hb hK hP 1 0 rfl rfl (vp_in_nI (show 92 < 93 by omega) (by omega)) dX4_done_29 ?_
      refine tp_any (fun y_7 => ?_)
      refine lv_aload_n hx hb dX4_done_30 rfl (lv_at hl 1 rfl) ?_
      refine lv_aload_n hx hb dX4_done_31 rfl (lv_at hl 1 rfl) ?_
      refine lv_iload_n hx hb dX4_done_32 rfl (lv_at hl 0 rfl) ?_
      have hPc := hP.sub (ws' := [(m0, .inr (4, [.ref m1, .ref m2, .int (nI bk), .ref m3, .ref m4, .ref m5, .ref m6, .int sd, .ref m7, .ref m8, .int cl, .int pc, .int op])), (m1, .inl (km1, 93, .inl nw))]) [0, 1] rfl
      have hKc := hK.sub (tys' := [(km1, .int)]) [0] rfl
      refine va_calli (va_runV (As := [.int (nI j_1)]) (rest := [.ref m0, .int y_7]) ⟨hx, hb, hml, hown, hts⟩ (c_X4_toldPrice l dC dI m0 m1 m2 m3 m4 m5 m6 m7 m8 km1 bk sd cl pc op nw (nI j_1) (by first | assumption | omega) (by first | assumption | omega) ) (cwV 1 hts gX4_done_X4_toldPrice rfl rfl rfl (by decide +kernel) ⟨Nat.le_of_ble_eq_true rfl, Nat.le_of_ble_eq_true rfl⟩) ⟨fun a U g mk q => by obtain ⟨q0, qP, qK⟩ := q; exact ⟨q0, qP, va_K.moved (u := U) (U := U.calling g mk a) (Vm.Alike.refl U.vm) qK⟩, va_recv hKc hPc (ci := 4) (q0 := 0) rfl rfl, fun U hU hW => ⟨rfl, by rw [hU]; exact hPc, va_K.moved hW.alike hKc⟩⟩ rfl rfl hl.1 rfl (lv_room (Nat.le_of_ble_eq_true rfl)) dX4_done_33 ⟨Nat.le_of_ble_eq_true rfl, Nat.le_of_ble_eq_true rfl⟩) hS (fun q _ h => h.elim) (fun q h => h.elim) (fun r_8 u9 t9 H1 locs ht hvm hw hB hz1 hk1 hS => ?_)
      refine W.widen (k := 0) (n := 0) (Nat.le_of_ble_eq_true rfl) (Nat.le_of_ble_eq_true rfl) ?_
      have hP := hP.kept (H1 := H1) (fun k q hk => hk1 q.1 (hP k q hk).lt (fun h => h))
      clear hz1 hk1 hB ht hvm t9
      generalize H1 = H at hP hS ⊢
      have hP : va_P (dC, dI) vwCl [(m0, .inr (4, [.ref m1, .ref m2, .int (nI bk), .ref m3, .ref m4, .ref m5, .ref m6, .int sd, .ref m7, .ref m8, .int cl, .int pc, .int op])), (m1, .inl (km1, 93, .inl nw)), (m2, .inl (km2, 93, .inl ws)), (m3, .inl (km3, 3720, .inl bc)), (m4, .inl (km4, 186, .inl im)), (m5, .inl (km5, 2, .inl isd)), (m6, .inl (km6, 2, .inl kp)), (m7, .inl (km7, 1525, .inl vl_3)), (m8, .inl (km8, 24, .inl pl_4))] H := hP
      clear hw
      refine lv_aload_n hx hb dX4_done_36 rfl (lv_at hl 1 rfl) ?_
      refine va_get (D := (dC, dI)) (ci := 4) (v := .ref m1) (C := RX4) (T := TX4) (N := 13) hx hb hts inX4 hown hK hP 0 rfl rfl 0 (by decide) (hts (.fieldLink RX4 7 "StoreSlopesModel" "now" "[I") (List.mem_of_getElem? (i := 1) rfl)) (fun _ h9 => h9) rfl dX4_done_37 ?_
      refine lv_iconst (v := nI 1) hx hb dX4_done_40 (by decide) ?_
      obtain ⟨j_9, hj_9, ej_9⟩ := (show okN nw by assumption).2.1
      refine va_iald hx hb hK hP 1 0 rfl rfl (vp_in_nI (show 1 < 93 by omega) (by omega)) dX4_done_41 ?_
      refine tp_as (cl_as (by omega) ej_9) ?_
      refine lv_aload_n hx hb dX4_done_42 rfl (lv_at hl 1 rfl) ?_
      refine va_get (D := (dC, dI)) (ci := 4) (v := .ref m8) (C := RX4) (T := TX4) (N := 13) hx hb hts inX4 hown hK hP 0 rfl rfl 9 (by decide) (hts (.fieldLink RX4 32 "StoreSlopesModel" "plan" "[I") (List.mem_of_getElem? (i := 3) rfl)) (fun _ h9 => h9) rfl dX4_done_43 ?_
      refine lv_iload_n hx hb dX4_done_46 rfl (lv_at hl 0 rfl) ?_
      refine va_iald hx hb hK hP 8 7 rfl rfl (vp_in_nI (show j_1 < 24 by omega) (by omega)) dX4_done_47 ?_
      obtain ⟨j_10, hj_10, ej_10⟩ := bdA_get (n := 60) (N := 24) (f := pl_4) (by assumption) (show j_1 < 24 by omega) (by omega)
      refine tp_as ej_10 ?_
      have hPc := hP.sub (ws' := [(m0, .inr (4, [.ref m1, .ref m2, .int (nI bk), .ref m3, .ref m4, .ref m5, .ref m6, .int sd, .ref m7, .ref m8, .int cl, .int pc, .int op])), (m1, .inl (km1, 93, .inl nw))]) [0, 1] rfl
      have hKc := hK.sub (tys' := [(km1, .int)]) [0] rfl
      refine va_calli (va_runV (As := [.int r_8, .int (nI j_9), .int (nI j_10)]) (rest := [.int y_7]) ⟨hx, hb, hml, hown, hts⟩ (c_X4_brings l dC dI m0 m1 m2 m3 m4 m5 m6 m7 m8 km1 bk sd cl pc op nw r_8 (nI j_9) (nI j_10) (by first | assumption | omega) (by first | assumption | omega) ) (cwV 3 hts gX4_done_X4_brings rfl rfl rfl (by decide +kernel) ⟨Nat.le_of_ble_eq_true rfl, Nat.le_of_ble_eq_true rfl⟩) ⟨fun a U g mk q => by obtain ⟨q0, qP, qK⟩ := q; exact ⟨q0, qP, va_K.moved (u := U) (U := U.calling g mk a) (Vm.Alike.refl U.vm) qK⟩, va_recv hKc hPc (ci := 4) (q0 := 0) rfl rfl, fun U hU hW => ⟨rfl, by rw [hU]; exact hPc, va_K.moved hW.alike hKc⟩⟩ rfl rfl hl.1 rfl (lv_room (Nat.le_of_ble_eq_true rfl)) dX4_done_48 ⟨Nat.le_of_ble_eq_true rfl, Nat.le_of_ble_eq_true rfl⟩) hS (fun q _ h => h.elim) (fun q h => h.elim) (fun r_11 u9 t9 H1 locs ht hvm hw hB hz1 hk1 hS => ?_)
      refine W.widen (k := 0) (n := 0) (Nat.le_of_ble_eq_true rfl) (Nat.le_of_ble_eq_true rfl) ?_
      have hP := hP.kept (H1 := H1) (fun k q hk => hk1 q.1 (hP k q hk).lt (fun h => h))
      clear hz1 hk1 hB ht hvm t9
      generalize H1 = H at hP hS ⊢
      have hP : va_P (dC, dI) vwCl [(m0, .inr (4, [.ref m1, .ref m2, .int (nI bk), .ref m3, .ref m4, .ref m5, .ref m6, .int sd, .ref m7, .ref m8, .int cl, .int pc, .int op])), (m1, .inl (km1, 93, .inl nw)), (m2, .inl (km2, 93, .inl ws)), (m3, .inl (km3, 3720, .inl bc)), (m4, .inl (km4, 186, .inl im)), (m5, .inl (km5, 2, .inl isd)), (m6, .inl (km6, 2, .inl kp)), (m7, .inl (km7, 1525, .inl vl_3)), (m8, .inl (km8, 24, .inl pl_4))] H := hP
      clear hw
      refine lv_iadd hx hb dX4_done_51 ?_
      refine tp_any (fun y_12 => ?_)
      refine lv_istore_n (lv' := [(2, .int y_12), (1, .int (nI j_1)), (0, .ref m0)]) hx hb dX4_done_52 rfl hl (by decide) rfl (fun ls hl => ?_)
      refine lv_aload_n hx hb dX4_done_53 rfl (lv_at hl 2 rfl) ?_
      have hPc := hP.sub (ws' := [(m0, .inr (4, [.ref m1, .ref m2, .int (nI bk), .ref m3, .ref m4, .ref m5, .ref m6, .int sd, .ref m7, .ref m8, .int cl, .int pc, .int op])), (m1, .inl (km1, 93, .inl nw)), (m3, .inl (km3, 3720, .inl bc))]) [0, 1, 3] rfl
      have hKc := hK.sub (tys' := [(km1, .int), (km3, .int)]) [0, 2] rfl
      have hDc := hD.sub (ws' := [(m0, .inr (4, [.ref m1, .ref m2, .int (nI bk), .ref m3, .ref m4, .ref m5, .ref m6, .int sd, .ref m7, .ref m8, .int cl, .int pc, .int op])), (m1, .inl (km1, 93, .inl nw)), (m3, .inl (km3, 3720, .inl bc))]) [0, 1, 3] (by decide) rfl
      have hFc := va_free (wc := [(m0, .inr (4, [.ref m1, .ref m2, .int (nI bk), .ref m3, .ref m4, .ref m5, .ref m6, .int sd, .ref m7, .ref m8, .int cl, .int pc, .int op])), (m1, .inl (km1, 93, .inl nw)), (m3, .inl (km3, 3720, .inl bc))]) hD hS hA [0, 1, 3] rfl
      refine va_callv (va_runV (As := []) (rest := []) ⟨hx, hb, hml, hown, hts⟩ (c_X4_note l dC dI m0 m1 m3 m2 m4 m5 m6 m7 m8 km1 km3 H.size bk sd cl pc op nw bc  (by first | assumption | omega) (by first | assumption | omega) (by first | assumption | omega) ) (cwV 0 hts gX4_done_X4_note rfl rfl rfl (by decide +kernel) ⟨Nat.le_of_ble_eq_true rfl, Nat.le_of_ble_eq_true rfl⟩) ⟨fun a U g mk q => by obtain ⟨q0, q1, qP, qK, qD⟩ := q; exact ⟨q0, q1, qP, va_K.moved (u := U) (U := U.calling g mk a) (Vm.Alike.refl U.vm) qK, qD⟩, va_recv hKc hPc (ci := 4) (q0 := 0) rfl rfl, fun U hU hW => ⟨rfl, by rw [hU], by rw [hU]; exact hPc, va_K.moved hW.alike hKc, hDc.weaken (fun _ _ _ _ => trivial)⟩⟩ rfl rfl hl.1 rfl (lv_room (Nat.le_of_ble_eq_true rfl)) dX4_done_54 ⟨Nat.le_of_ble_eq_true rfl, Nat.le_of_ble_eq_true rfl⟩) hS (fun q _ h => hFc q h) hFc (fun u9 t9 H1 locs ht hvm hw hB hz1 hk1 hS => ?_)
      refine W.widen (k := 0) (n := 0) (Nat.le_of_ble_eq_true rfl) (Nat.le_of_ble_eq_true rfl) ?_
      obtain ⟨⟩ := u9
      obtain ⟨bk_14, bc_15, h_16, h_17, hP1, hK1, hD1⟩ := hB
      rw [ht] at hP1
      obtain ⟨hP, hD⟩ := va_join (wr := [(m2, .inl (km2, 93, .inl ws)), (m4, .inl (km4, 186, .inl im)), (m5, .inl (km5, 2, .inl isd)), (m6, .inl (km6, 2, .inl kp)), (m7, .inl (km7, 1525, .inl vl_3)), (m8, .inl (km8, 24, .inl pl_4))]) (w1 := [(m0, .inr (4, [.ref m1, .ref m2, .int (nI bk_14), .ref m3, .ref m4, .ref m5, .ref m6, .int sd, .ref m7, .ref m8, .int cl, .int pc, .int op])), (m1, .inl (km1, 93, .inl nw)), (m3, .inl (km3, 3720, .inl bc_15))]) hP hD [0, 1, 3] [2, 4, 5, 6, 7, 8] rfl rfl (by decide) (by decide) hk1 hFc hP1 hD1
      clear hPc hDc hKc hFc hz1 hk1 ht hvm hP1 hK1 hD1 hw t9
      generalize H1 = H at hP hS ⊢
      have hP := hP.sub (ws' := [(m0, .inr (4, [.ref m1, .ref m2, .int (nI bk_14), .ref m3, .ref m4, .ref m5, .ref m6, .int sd, .ref m7, .ref m8, .int cl, .int pc, .int op])), (m1, .inl (km1, 93, .inl nw)), (m2, .inl (km2, 93, .inl ws)), (m3, .inl (km3, 3720, .inl bc_15)), (m4, .inl (km4, 186, .inl im)), (m5, .inl (km5, 2, .inl isd)), (m6, .inl (km6, 2, .inl kp)), (m7, .inl (km7, 1525, .inl vl_3)), (m8, .inl (km8, 24, .inl pl_4))]) [6, 7, 0, 8, 1, 2, 3, 4, 5] rfl
      have hD := hD.sub (ws' := [(m0, .inr (4, [.ref m1, .ref m2, .int (nI bk_14), .ref m3, .ref m4, .ref m5, .ref m6, .int sd, .ref m7, .ref m8, .int cl, .int pc, .int op])), (m1, .inl (km1, 93, .inl nw)), (m2, .inl (km2, 93, .inl ws)), (m3, .inl (km3, 3720, .inl bc_15)), (m4, .inl (km4, 186, .inl im)), (m5, .inl (km5, 2, .inl isd)), (m6, .inl (km6, 2, .inl kp)), (m7, .inl (km7, 1525, .inl vl_3)), (m8, .inl (km8, 24, .inl pl_4))]) [6, 7, 0, 8, 1, 2, 3, 4, 5] (by decide) rfl
      refine lv_aload_n hx hb dX4_done_57 rfl (lv_at hl 2 rfl) ?_
      refine va_get (D := (dC, dI)) (ci := 4) (v := .ref m1) (C := RX4) (T := TX4) (N := 13) hx hb hts inX4 hown hK hP 0 rfl rfl 0 (by decide) (hts (.fieldLink RX4 7 "StoreSlopesModel" "now" "[I") (List.mem_of_getElem? (i := 1) rfl)) (fun _ h9 => h9) rfl dX4_done_58 ?_
      refine lv_iconst (v := nI 1) hx hb dX4_done_61 (by decide) ?_
      refine lv_aload_n hx hb dX4_done_62 rfl (lv_at hl 2 rfl) ?_
      refine va_get (D := (dC, dI)) (ci := 4) (v := .ref m8) (C := RX4) (T := TX4) (N := 13) hx hb hts inX4 hown hK hP 0 rfl rfl 9 (by decide) (hts (.fieldLink RX4 32 "StoreSlopesModel" "plan" "[I") (List.mem_of_getElem? (i := 3) rfl)) (fun _ h9 => h9) rfl dX4_done_63 ?_
      refine lv_iload_n hx hb dX4_done_66 rfl (lv_at hl 1 rfl) ?_
      refine va_iald hx hb hK hP 8 7 rfl rfl (vp_in_nI (show j_1 < 24 by omega) (by omega)) dX4_done_67 ?_
      obtain ⟨j_18, hj_18, ej_18⟩ := bdA_get (n := 60) (N := 24) (f := pl_4) (by assumption) (show j_1 < 24 by omega) (by omega)
      refine tp_as ej_18 ?_
      refine va_iast hx hb hK hP hD hS 1 0 rfl rfl (vp_in_nI (show 1 < 93 by omega) (by omega)) dX4_done_68 (fun H locs hP hD hS => ?_)
      have hP : va_P (dC, dI) vwCl [(m0, .inr (4, [.ref m1, .ref m2, .int (nI bk_14), .ref m3, .ref m4, .ref m5, .ref m6, .int sd, .ref m7, .ref m8, .int cl, .int pc, .int op])), (m1, .inl (km1, 93, .inl (upd nw (nI 1).toNatClampNeg (nI j_18)))), (m2, .inl (km2, 93, .inl ws)), (m3, .inl (km3, 3720, .inl bc_15)), (m4, .inl (km4, 186, .inl im)), (m5, .inl (km5, 2, .inl isd)), (m6, .inl (km6, 2, .inl kp)), (m7, .inl (km7, 1525, .inl vl_3)), (m8, .inl (km8, 24, .inl pl_4))] H := hP
      have hD : va_D A [(m0, .inr (4, [.ref m1, .ref m2, .int (nI bk_14), .ref m3, .ref m4, .ref m5, .ref m6, .int sd, .ref m7, .ref m8, .int cl, .int pc, .int op])), (m1, .inl (km1, 93, .inl (upd nw (nI 1).toNatClampNeg (nI j_18)))), (m2, .inl (km2, 93, .inl ws)), (m3, .inl (km3, 3720, .inl bc_15)), (m4, .inl (km4, 186, .inl im)), (m5, .inl (km5, 2, .inl isd)), (m6, .inl (km6, 2, .inl kp)), (m7, .inl (km7, 1525, .inl vl_3)), (m8, .inl (km8, 24, .inl pl_4))] := hD
      generalize ef_19 : upd nw (nI 1).toNatClampNeg (nI j_18) = f_19 at hP hD
      have bf_19 : okN f_19 := okN_upd (by assumption) ef_19 (by omega) (by refine ⟨fun q => ?_, fun q => ?_, fun q => ?_, fun q => ?_, fun q => ?_, fun q q2 => ?_⟩ <;> first | (exfalso; omega) | exact ⟨_, by omega, rfl⟩)
      have s0_f_19 : f_19 0 = nw 0 := upd_at ef_19 (by omega) (by omega)
      clear ef_19
      refine lv_aload_n hx hb dX4_done_69 rfl (lv_at hl 2 rfl) ?_
      refine va_get (D := (dC, dI)) (ci := 4) (v := .ref m1) (C := RX4) (T := TX4) (N := 13) hx hb hts inX4 hown hK hP 0 rfl rfl 0 (by decide) (hts (.fieldLink RX4 7 "StoreSlopesModel" "now" "[I") (List.mem_of_getElem? (i := 1) rfl)) (fun _ h9 => h9) rfl dX4_done_70 ?_
      refine lv_bipush (v := nI 92) hx hb dX4_done_73 (by decide) ?_
      refine lv_iload_n hx hb dX4_done_75 rfl (lv_at hl 0 rfl) ?_
      refine va_iast hx hb hK hP hD hS 1 0 rfl rfl (vp_in_nI (show 92 < 93 by omega) (by omega)) dX4_done_76 (fun H locs hP hD hS => ?_)
      have hP : va_P (dC, dI) vwCl [(m0, .inr (4, [.ref m1, .ref m2, .int (nI bk_14), .ref m3, .ref m4, .ref m5, .ref m6, .int sd, .ref m7, .ref m8, .int cl, .int pc, .int op])), (m1, .inl (km1, 93, .inl (upd f_19 (nI 92).toNatClampNeg (y_12)))), (m2, .inl (km2, 93, .inl ws)), (m3, .inl (km3, 3720, .inl bc_15)), (m4, .inl (km4, 186, .inl im)), (m5, .inl (km5, 2, .inl isd)), (m6, .inl (km6, 2, .inl kp)), (m7, .inl (km7, 1525, .inl vl_3)), (m8, .inl (km8, 24, .inl pl_4))] H := hP
      have hD : va_D A [(m0, .inr (4, [.ref m1, .ref m2, .int (nI bk_14), .ref m3, .ref m4, .ref m5, .ref m6, .int sd, .ref m7, .ref m8, .int cl, .int pc, .int op])), (m1, .inl (km1, 93, .inl (upd f_19 (nI 92).toNatClampNeg (y_12)))), (m2, .inl (km2, 93, .inl ws)), (m3, .inl (km3, 3720, .inl bc_15)), (m4, .inl (km4, 186, .inl im)), (m5, .inl (km5, 2, .inl isd)), (m6, .inl (km6, 2, .inl kp)), (m7, .inl (km7, 1525, .inl vl_3)), (m8, .inl (km8, 24, .inl pl_4))] := hD
      generalize ef_20 : upd f_19 (nI 92).toNatClampNeg (y_12) = f_20 at hP hD
      have bf_20 : okN f_20 := okN_upd (by assumption) ef_20 (by omega) (by refine ⟨fun q => ?_, fun q => ?_, fun q => ?_, fun q => ?_, fun q => ?_, fun q q2 => ?_⟩ <;> first | (exfalso; omega) | exact ⟨_, by omega, rfl⟩)
      have s0_f_20 : f_20 0 = f_19 0 := upd_at ef_20 (by omega) (by omega)
      clear ef_20
      refine lv_aload_n hx hb dX4_done_77 rfl (lv_at hl 2 rfl) ?_
      refine va_get (D := (dC, dI)) (ci := 4) (v := .ref m1) (C := RX4) (T := TX4) (N := 13) hx hb hts inX4 hown hK hP 0 rfl rfl 0 (by decide) (hts (.fieldLink RX4 7 "StoreSlopesModel" "now" "[I") (List.mem_of_getElem? (i := 1) rfl)) (fun _ h9 => h9) rfl dX4_done_78 ?_
      refine lv_iconst (v := nI 0) hx hb dX4_done_81 (by decide) ?_
      refine lv_dup2_11 hx hb dX4_done_82 rfl rfl ?_
      refine va_iald hx hb hK hP 1 0 rfl rfl (vp_in_nI (show 0 < 93 by omega) (by omega)) dX4_done_83 ?_
      refine tp_as (cl_as (by omega) (s0_f_20.trans (s0_f_19.trans ej_1))) ?_
      refine lv_iconst (v := nI 1) hx hb dX4_done_84 (by decide) ?_
      refine lv_iadd hx hb dX4_done_85 ?_
      refine tp_as (nI_add j_1 1) ?_
      refine va_iast hx hb hK hP hD hS 1 0 rfl rfl (vp_in_nI (show 0 < 93 by omega) (by omega)) dX4_done_86 (fun H locs hP hD hS => ?_)
      have hP : va_P (dC, dI) vwCl [(m0, .inr (4, [.ref m1, .ref m2, .int (nI bk_14), .ref m3, .ref m4, .ref m5, .ref m6, .int sd, .ref m7, .ref m8, .int cl, .int pc, .int op])), (m1, .inl (km1, 93, .inl (upd f_20 (nI 0).toNatClampNeg (nI (j_1 + 1))))), (m2, .inl (km2, 93, .inl ws)), (m3, .inl (km3, 3720, .inl bc_15)), (m4, .inl (km4, 186, .inl im)), (m5, .inl (km5, 2, .inl isd)), (m6, .inl (km6, 2, .inl kp)), (m7, .inl (km7, 1525, .inl vl_3)), (m8, .inl (km8, 24, .inl pl_4))] H := hP
      have hD : va_D A [(m0, .inr (4, [.ref m1, .ref m2, .int (nI bk_14), .ref m3, .ref m4, .ref m5, .ref m6, .int sd, .ref m7, .ref m8, .int cl, .int pc, .int op])), (m1, .inl (km1, 93, .inl (upd f_20 (nI 0).toNatClampNeg (nI (j_1 + 1))))), (m2, .inl (km2, 93, .inl ws)), (m3, .inl (km3, 3720, .inl bc_15)), (m4, .inl (km4, 186, .inl im)), (m5, .inl (km5, 2, .inl isd)), (m6, .inl (km6, 2, .inl kp)), (m7, .inl (km7, 1525, .inl vl_3)), (m8, .inl (km8, 24, .inl pl_4))] := hD
      generalize ef_21 : upd f_20 (nI 0).toNatClampNeg (nI (j_1 + 1)) = f_21 at hP hD
      have bf_21 : okN f_21 := okN_upd (by assumption) ef_21 (by omega) (by refine ⟨fun q => ?_, fun q => ?_, fun q => ?_, fun q => ?_, fun q => ?_, fun q q2 => ?_⟩ <;> first | (exfalso; omega) | exact ⟨_, by omega, rfl⟩)
      clear ef_21
      refine lv_iload_n hx hb dX4_done_87 rfl (lv_at hl 0 rfl) ?_
      refine lv_ldc (own := RX4) (v := (1000000)) hx hb hown (hts (.constant RX4 82 (1000000)) (List.mem_of_getElem? (i := 4) rfl)) dX4_done_88 ?_
      refine lv_iadd hx hb dX4_done_90 ?_
      refine tp_any (fun y_22 => ?_)
      subst hQe
      have hP9 := hP.sub (ws' := [(m0, .inr (4, [.ref m1, .ref m2, .int (nI bk_14), .ref m3, .ref m4, .ref m5, .ref m6, .int sd, .ref m7, .ref m8, .int cl, .int pc, .int op])), (m1, .inl (km1, 93, .inl f_21)), (m2, .inl (km2, 93, .inl ws)), (m3, .inl (km3, 3720, .inl bc_15)), (m4, .inl (km4, 186, .inl im)), (m5, .inl (km5, 2, .inl isd)), (m6, .inl (km6, 2, .inl kp)), (m7, .inl (km7, 1525, .inl vl_3)), (m8, .inl (km8, 24, .inl pl_4))]) [0, 1, 2, 3, 4, 5, 6, 7, 8] rfl
      have hD9 := hD.sub (ws' := [(m0, .inr (4, [.ref m1, .ref m2, .int (nI bk_14), .ref m3, .ref m4, .ref m5, .ref m6, .int sd, .ref m7, .ref m8, .int cl, .int pc, .int op])), (m1, .inl (km1, 93, .inl f_21)), (m2, .inl (km2, 93, .inl ws)), (m3, .inl (km3, 3720, .inl bc_15)), (m4, .inl (km4, 186, .inl im)), (m5, .inl (km5, 2, .inl isd)), (m6, .inl (km6, 2, .inl kp)), (m7, .inl (km7, 1525, .inl vl_3)), (m8, .inl (km8, 24, .inl pl_4))]) [0, 1, 2, 3, 4, 5, 6, 7, 8] (by decide) rfl
      have hK9 := hK.sub (tys' := [(km1, .int), (km2, .int), (km3, .int), (km4, .int), (km5, .int), (km6, .boolean), (km7, .int), (km8, .int)]) [0, 1, 2, 3, 4, 5, 6, 7] rfl
      subst hAe
      exact W.iret (v := y_22) hx hb hr (fun t ht hW => ⟨⟨_, _, rfl, rfl, bk_14, sd, cl, pc, op, f_21, ws, bc_15, im, isd, vl_3, pl_4, (by first | assumption | omega), (by first | assumption | omega), (by first | assumption | omega), (by first | assumption | omega), (by first | assumption | omega), by rw [ht]; exact hP9, va_K.moved hW.alike hK9, hD9⟩, hS.F ht⟩) hS.2.2 dX4_done_91
    · refine lv_ldc (own := RX4) (v := (-1000000003)) hx hb hown (hts (.constant RX4 139 (-1000000003)) (List.mem_of_getElem? (i := 2) rfl)) dX4_done_20 ?_
      subst hQe
      have hP9 := hP.sub (ws' := [(m0, .inr (4, [.ref m1, .ref m2, .int (nI bk), .ref m3, .ref m4, .ref m5, .ref m6, .int sd, .ref m7, .ref m8, .int cl, .int pc, .int op])), (m1, .inl (km1, 93, .inl nw)), (m2, .inl (km2, 93, .inl ws)), (m3, .inl (km3, 3720, .inl bc)), (m4, .inl (km4, 186, .inl im)), (m5, .inl (km5, 2, .inl isd)), (m6, .inl (km6, 2, .inl kp)), (m7, .inl (km7, 1525, .inl vl_3)), (m8, .inl (km8, 24, .inl pl_4))]) [0, 1, 2, 3, 4, 5, 6, 7, 8] rfl
      have hD9 := hD.sub (ws' := [(m0, .inr (4, [.ref m1, .ref m2, .int (nI bk), .ref m3, .ref m4, .ref m5, .ref m6, .int sd, .ref m7, .ref m8, .int cl, .int pc, .int op])), (m1, .inl (km1, 93, .inl nw)), (m2, .inl (km2, 93, .inl ws)), (m3, .inl (km3, 3720, .inl bc)), (m4, .inl (km4, 186, .inl im)), (m5, .inl (km5, 2, .inl isd)), (m6, .inl (km6, 2, .inl kp)), (m7, .inl (km7, 1525, .inl vl_3)), (m8, .inl (km8, 24, .inl pl_4))]) [0, 1, 2, 3, 4, 5, 6, 7, 8] (by decide) rfl
      have hK9 := hK.sub (tys' := [(km1, .int), (km2, .int), (km3, .int), (km4, .int), (km5, .int), (km6, .boolean), (km7, .int), (km8, .int)]) [0, 1, 2, 3, 4, 5, 6, 7] rfl
      subst hAe
      exact W.iret (v := ((-1000000003))) hx hb hr (fun t ht hW => ⟨⟨_, _, rfl, rfl, bk, sd, cl, pc, op, nw, ws, bc, im, isd, vl_3, pl_4, (by first | assumption | omega), (by first | assumption | omega), (by first | assumption | omega), (by first | assumption | omega), (by first | assumption | omega), by rw [ht]; exact hP9, va_K.moved hW.alike hK9, hD9⟩, hS.F ht⟩) hS.2.2 dX4_done_22
set_option maxHeartbeats 4000000 in
set_option maxRecDepth 100000 in
theorem c_X4_drift (l : Launch) (dC : Nat → ClassId) (dI : Nat → Nat → Nat) (m0 m1 m2 m3 m4 m5 m6 m7 m8 : Nat) (km1 km2 km3 km4 km5 km6 km7 km8 : ClassId) (sz : Nat) (bk : Nat) (sd : Int32) (cl : Int32) (pc : Int32) (op : Int32) (nw : Nat → Int32) (ws : Nat → Int32) (bc : Nat → Int32) (im : Nat → Int32) (isd : Nat → Int32) (kp : Nat → Int32) (vl : Nat → Int32) (pl : Nat → Int32) (a : Int32) (i0 : bk ≤ 40) (i1 : okN nw) (i2 : okB 40 bc) (i3 : okB 2 im) (i4 : bdA 60 24 pl) : Met l yX4_drift wsX4_drift ({ frames := 3, cells := 0, slots := 0, locals := 71 }) (va_Pc [.ref m0, .int a] (fun U => U.heap.size = sz ∧ va_P (dC, dI) vwCl [(m0, .inr (4, [.ref m1, .ref m2, .int (nI bk), .ref m3, .ref m4, .ref m5, .ref m6, .int sd, .ref m7, .ref m8, .int cl, .int pc, .int op])), (m1, .inl (km1, 93, .inl nw)), (m2, .inl (km2, 93, .inl ws)), (m3, .inl (km3, 3720, .inl bc)), (m4, .inl (km4, 186, .inl im)), (m5, .inl (km5, 2, .inl isd)), (m6, .inl (km6, 2, .inl kp)), (m7, .inl (km7, 1525, .inl vl)), (m8, .inl (km8, 24, .inl pl))] U.heap ∧ va_K (dC, dI) vwCl [(km1, .int), (km2, .int), (km3, .int), (km4, .int), (km5, .int), (km6, .boolean), (km7, .int), (km8, .int)] U ∧ va_D (fun _ => True) [(m0, .inr (4, [.ref m1, .ref m2, .int (nI bk), .ref m3, .ref m4, .ref m5, .ref m6, .int sd, .ref m7, .ref m8, .int cl, .int pc, .int op])), (m1, .inl (km1, 93, .inl nw)), (m2, .inl (km2, 93, .inl ws)), (m3, .inl (km3, 3720, .inl bc)), (m4, .inl (km4, 186, .inl im)), (m5, .inl (km5, 2, .inl isd)), (m6, .inl (km6, 2, .inl kp)), (m7, .inl (km7, 1525, .inl vl)), (m8, .inl (km8, 24, .inl pl))])) (va_Qi (fun (r u : Int32) => u = r) (fun r t => ∃ (bk' : Nat) (sd' : Int32) (cl' : Int32) (pc' : Int32) (op' : Int32) (nw' : Nat → Int32) (ws' : Nat → Int32) (bc' : Nat → Int32) (im' : Nat → Int32) (isd' : Nat → Int32) (vl' : Nat → Int32) (pl' : Nat → Int32), bk' ≤ 40 ∧ okN nw' ∧ okB 40 bc' ∧ okB 2 im' ∧ bdA 60 24 pl' ∧ va_P (dC, dI) vwCl [(m0, .inr (4, [.ref m1, .ref m2, .int (nI bk'), .ref m3, .ref m4, .ref m5, .ref m6, .int sd', .ref m7, .ref m8, .int cl', .int pc', .int op'])), (m1, .inl (km1, 93, .inl nw')), (m2, .inl (km2, 93, .inl ws')), (m3, .inl (km3, 3720, .inl bc')), (m4, .inl (km4, 186, .inl im')), (m5, .inl (km5, 2, .inl isd')), (m6, .inl (km6, 2, .inl kp)), (m7, .inl (km7, 1525, .inl vl')), (m8, .inl (km8, 24, .inl pl'))] t.heap ∧ va_K (dC, dI) vwCl [(km1, .int), (km2, .int), (km3, .int), (km4, .int), (km5, .int), (km6, .boolean), (km7, .int), (km8, .int)] t ∧ va_D (va_A [(m0, .inr (4, [.ref m1, .ref m2, .int (nI bk), .ref m3, .ref m4, .ref m5, .ref m6, .int sd, .ref m7, .ref m8, .int cl, .int pc, .int op])), (m1, .inl (km1, 93, .inl nw)), (m2, .inl (km2, 93, .inl ws)), (m3, .inl (km3, 3720, .inl bc)), (m4, .inl (km4, 186, .inl im)), (m5, .inl (km5, 2, .inl isd)), (m6, .inl (km6, 2, .inl kp)), (m7, .inl (km7, 1525, .inl vl)), (m8, .inl (km8, 24, .inl pl))] sz) [(m0, .inr (4, [.ref m1, .ref m2, .int (nI bk'), .ref m3, .ref m4, .ref m5, .ref m6, .int sd', .ref m7, .ref m8, .int cl', .int pc', .int op'])), (m1, .inl (km1, 93, .inl nw')), (m2, .inl (km2, 93, .inl ws')), (m3, .inl (km3, 3720, .inl bc')), (m4, .inl (km4, 186, .inl im')), (m5, .inl (km5, 2, .inl isd')), (m6, .inl (km6, 2, .inl kp)), (m7, .inl (km7, 1525, .inl vl')), (m8, .inl (km8, 24, .inl pl'))]) (va_A [(m0, .inr (4, [.ref m1, .ref m2, .int (nI bk), .ref m3, .ref m4, .ref m5, .ref m6, .int sd, .ref m7, .ref m8, .int cl, .int pc, .int op])), (m1, .inl (km1, 93, .inl nw)), (m2, .inl (km2, 93, .inl ws)), (m3, .inl (km3, 3720, .inl bc)), (m4, .inl (km4, 186, .inl im)), (m5, .inl (km5, 2, .inl isd)), (m6, .inl (km6, 2, .inl kp)), (m7, .inl (km7, 1525, .inl vl)), (m8, .inl (km8, 24, .inl pl))] sz)) 0 0 (va_A [(m0, .inr (4, [.ref m1, .ref m2, .int (nI bk), .ref m3, .ref m4, .ref m5, .ref m6, .int sd, .ref m7, .ref m8, .int cl, .int pc, .int op])), (m1, .inl (km1, 93, .inl nw)), (m2, .inl (km2, 93, .inl ws)), (m3, .inl (km3, 3720, .inl bc)), (m4, .inl (km4, 186, .inl im)), (m5, .inl (km5, 2, .inl isd)), (m6, .inl (km6, 2, .inl kp)), (m7, .inl (km7, 1525, .inl vl)), (m8, .inl (km8, 24, .inl pl))] sz) := by
  refine Met.ofW (cc := cX4_drift) (maxL := 7) (ret := (some .int)) (by decide) rfl ?_
  intro p e s m args below meth c s₁ B hml hv
  obtain ⟨rfl, hsz, hP, hK, hD0⟩ := hv
  have hx := B.exec
  have hb := B.bytes
  have hr := B.returns
  have hts := atoms_spec (ws := wsX4_drift) B.pre
  have hown : s.vm.findClass RX4 = some m.cls := findClass_of_methodNamed B.named
  have hlocks := B.notSynchronized
  have inX4 : ∀ w ∈ wsX40, w ∈ wsX4_drift := fun _ h => List.mem_cons_of_mem _ (List.mem_append_right _ h)
  subst hsz
  have hD := hD0.self (sz := s.heap.size)
  generalize hAe : va_A [(m0, .inr (4, [.ref m1, .ref m2, .int (nI bk), .ref m3, .ref m4, .ref m5, .ref m6, .int sd, .ref m7, .ref m8, .int cl, .int pc, .int op])), (m1, .inl (km1, 93, .inl nw)), (m2, .inl (km2, 93, .inl ws)), (m3, .inl (km3, 3720, .inl bc)), (m4, .inl (km4, 186, .inl im)), (m5, .inl (km5, 2, .inl isd)), (m6, .inl (km6, 2, .inl kp)), (m7, .inl (km7, 1525, .inl vl)), (m8, .inl (km8, 24, .inl pl))] s.heap.size = A at hD ⊢
  have hA : ∀ q : Nat, s.heap.size ≤ q → A q := fun q h => by rw [← hAe]; exact Or.inr h
  have hS : va_S A s.heap s.heap [] := va_S.rf
  have hl := lv_entry ([.ref m0, .int a]) (n := 7) (Nat.le_of_ble_eq_true rfl)
  rw [lg_entry_eq]
  generalize (lg_sl ([.ref m0, .int a]) ++ List.replicate (7 - (lg_sl ([.ref m0, .int a])).length) Slot.unset).toArray = ls at hl ⊢
  generalize hQe : MQ below _ _ s 0 0 _ = Q
  generalize ([.ref m0, .int a] : List Value).toArray = args at hts hQe ⊢
  have hl : lv_has ls 7 [(0, .ref m0), (1, .int a)] := hl
  refine lv_iload_n hx hb dX4_drift_0 rfl (lv_at hl 1 rfl) ?_
  refine lv_iconst (v := nI 1) hx hb dX4_drift_1 (by decide) ?_
  refine lv_bipush (v := nI 12) hx hb dX4_drift_2 (by decide) ?_
  refine va_calli (va_runS (As := [.int a, .int (nI 1), .int (nI 12)]) (rest := []) ⟨hx, hb, hml, hown, hts⟩ (c_X4_in l dC dI   a (nI 1) (nI 12)  ) (va_cwS 3 hts gX4_drift_X4_in rfl rfl rfl (by decide +kernel) ⟨Nat.le_of_ble_eq_true rfl, Nat.le_of_ble_eq_true rfl⟩) ⟨fun a U g mk q => q, fun U hU hW => ⟨rfl, trivial⟩⟩ rfl rfl hl.1 rfl (lv_room (Nat.le_of_ble_eq_true rfl)) dX4_drift_4 ⟨Nat.le_of_ble_eq_true rfl, Nat.le_of_ble_eq_true rfl⟩) hS (fun q _ h => h.elim) (fun q h => h.elim) (fun r_1 u9 t9 H1 locs ht hvm hw hB hz1 hk1 hS => ?_)
  refine W.widen (k := 0) (n := 0) (Nat.le_of_ble_eq_true rfl) (Nat.le_of_ble_eq_true rfl) ?_
  have hP := hP.kept (H1 := H1) (fun k q hk => hk1 q.1 (hP k q hk).lt (fun h => h))
  clear hz1 hk1 hB ht hvm t9
  generalize H1 = H at hP hS ⊢
  have hP : va_P (dC, dI) vwCl [(m0, .inr (4, [.ref m1, .ref m2, .int (nI bk), .ref m3, .ref m4, .ref m5, .ref m6, .int sd, .ref m7, .ref m8, .int cl, .int pc, .int op])), (m1, .inl (km1, 93, .inl nw)), (m2, .inl (km2, 93, .inl ws)), (m3, .inl (km3, 3720, .inl bc)), (m4, .inl (km4, 186, .inl im)), (m5, .inl (km5, 2, .inl isd)), (m6, .inl (km6, 2, .inl kp)), (m7, .inl (km7, 1525, .inl vl)), (m8, .inl (km8, 24, .inl pl))] H := hP
  have wr_1 := hw
  clear hw
  refine lv_if_ne (tgt := 13) hx hb dX4_drift_7 (by decide) (fun c_7 => ?_) (fun c_7 => ?_)
  · obtain ⟨j_2, gj_2, hj_2, rfl⟩ := rg_1b (by decide) (b_1 wr_1 c_7)
    refine lv_iconst (v := nI 0) hx hb dX4_drift_13 (by decide) ?_
    refine lv_istore_n (lv' := [(2, .int (nI 0)), (0, .ref m0), (1, .int (nI j_2))]) hx hb dX4_drift_14 rfl hl (by decide) rfl (fun ls hl => ?_)
    have L15 : ∀ (n : Nat) (i : Nat) (bkv : Nat) (sdv : Int32) (nwv : Nat → Int32) (bcv : Nat → Int32) (H : Heap) (locs : List Loc) (ls : Array Slot), i ≤ 12 → bkv ≤ 40 → okN nwv → okB 40 bcv → 12 - i < n → va_P (dC, dI) vwCl [(m0, .inr (4, [.ref m1, .ref m2, .int (nI bkv), .ref m3, .ref m4, .ref m5, .ref m6, .int sdv, .ref m7, .ref m8, .int cl, .int pc, .int op])), (m1, .inl (km1, 93, .inl nwv)), (m2, .inl (km2, 93, .inl ws)), (m3, .inl (km3, 3720, .inl bcv)), (m4, .inl (km4, 186, .inl im)), (m5, .inl (km5, 2, .inl isd)), (m6, .inl (km6, 2, .inl kp)), (m7, .inl (km7, 1525, .inl vl)), (m8, .inl (km8, 24, .inl pl))] H → va_D A [(m0, .inr (4, [.ref m1, .ref m2, .int (nI bkv), .ref m3, .ref m4, .ref m5, .ref m6, .int sdv, .ref m7, .ref m8, .int cl, .int pc, .int op])), (m1, .inl (km1, 93, .inl nwv)), (m2, .inl (km2, 93, .inl ws)), (m3, .inl (km3, 3720, .inl bcv)), (m4, .inl (km4, 186, .inl im)), (m5, .inl (km5, 2, .inl isd)), (m6, .inl (km6, 2, .inl kp)), (m7, .inl (km7, 1525, .inl vl)), (m8, .inl (km8, 24, .inl pl))] → va_S A s.heap H locs → lv_has ls 7 [(0, .ref m0), (1, .int (nI j_2)), (2, .int (nI i))] → W p l e (headSpec wsX4_drift { frames := 3, cells := 0, slots := 0, locals := 71 }).room s m args below meth c H locs 0 0 Q (F0 m 15 ls []) := by
      intro n
      induction n with
      | zero => intro i bkv sdv nwv bcv H locs ls hL15_0 hL15_1 hL15_2 hL15_3 hn; exact absurd hn (Nat.not_lt_zero _)
      | succ n ih15 =>
        intro i bkv sdv nwv bcv H locs ls hL15_0 hL15_1 hL15_2 hL15_3 hn hP hD hS hl
        refine lv_iload_n hx hb dX4_drift_15 rfl (lv_at hl 2 rfl) ?_
        refine lv_iload_n hx hb dX4_drift_16 rfl (lv_at hl 1 rfl) ?_
        refine lv_icmp_ge (tgt := 92) hx hb dX4_drift_17 (by decide) (fun c_17 => ?_) (fun c_17 => ?_)
        · have c_17 := (nI_leI (by omega : j_2 < 2 ^ 31) (by omega : i < 2 ^ 31)).mp c_17
          refine lv_aload_n hx hb dX4_drift_92 rfl (lv_at hl 0 rfl) ?_
          refine va_get (D := (dC, dI)) (ci := 4) (v := .ref m1) (C := RX4) (T := TX4) (N := 13) hx hb hts inX4 hown hK hP 0 rfl rfl 0 (by decide) (hts (.fieldLink RX4 7 "StoreSlopesModel" "now" "[I") (List.mem_of_getElem? (i := 2) rfl)) (fun _ h9 => h9) rfl dX4_drift_93 ?_
          refine lv_bipush (v := nI 7) hx hb dX4_drift_96 (by decide) ?_
          obtain ⟨j_3, hj_3, ej_3⟩ := (show okN nwv by assumption).2.2.2.2.1
          refine va_iald hx hb hK hP 1 0 rfl rfl (vp_in_nI (show 7 < 93 by omega) (by omega)) dX4_drift_98 ?_
          refine tp_as (cl_as (by omega) ej_3) ?_
          subst hQe
          have hP9 := hP.sub (ws' := [(m0, .inr (4, [.ref m1, .ref m2, .int (nI bkv), .ref m3, .ref m4, .ref m5, .ref m6, .int sdv, .ref m7, .ref m8, .int cl, .int pc, .int op])), (m1, .inl (km1, 93, .inl nwv)), (m2, .inl (km2, 93, .inl ws)), (m3, .inl (km3, 3720, .inl bcv)), (m4, .inl (km4, 186, .inl im)), (m5, .inl (km5, 2, .inl isd)), (m6, .inl (km6, 2, .inl kp)), (m7, .inl (km7, 1525, .inl vl)), (m8, .inl (km8, 24, .inl pl))]) [0, 1, 2, 3, 4, 5, 6, 7, 8] rfl
          have hD9 := hD.sub (ws' := [(m0, .inr (4, [.ref m1, .ref m2, .int (nI bkv), .ref m3, .ref m4, .ref m5, .ref m6, .int sdv, .ref m7, .ref m8, .int cl, .int pc, .int op])), (m1, .inl (km1, 93, .inl nwv)), (m2, .inl (km2, 93, .inl ws)), (m3, .inl (km3, 3720, .inl bcv)), (m4, .inl (km4, 186, .inl im)), (m5, .inl (km5, 2, .inl isd)), (m6, .inl (km6, 2, .inl kp)), (m7, .inl (km7, 1525, .inl vl)), (m8, .inl (km8, 24, .inl pl))]) [0, 1, 2, 3, 4, 5, 6, 7, 8] (by decide) rfl
          have hK9 := hK.sub (tys' := [(km1, .int), (km2, .int), (km3, .int), (km4, .int), (km5, .int), (km6, .boolean), (km7, .int), (km8, .int)]) [0, 1, 2, 3, 4, 5, 6, 7] rfl
          subst hAe
          exact W.iret (v := (nI j_3)) hx hb hr (fun t ht hW => ⟨⟨_, _, rfl, rfl, bkv, sdv, cl, pc, op, nwv, ws, bcv, im, isd, vl, pl, (by first | assumption | omega), (by first | assumption | omega), (by first | assumption | omega), (by first | assumption | omega), (by first | assumption | omega), by rw [ht]; exact hP9, va_K.moved hW.alike hK9, hD9⟩, hS.F ht⟩) hS.2.2 dX4_drift_99
        · have c_17 := (not_congr (nI_leI (by omega : j_2 < 2 ^ 31) (by omega : i < 2 ^ 31))).mp c_17
          refine lv_aload_n hx hb dX4_drift_20 rfl (lv_at hl 0 rfl) ?_
          refine va_get (D := (dC, dI)) (ci := 4) (v := .ref m1) (C := RX4) (T := TX4) (N := 13) hx hb hts inX4 hown hK hP 0 rfl rfl 0 (by decide) (hts (.fieldLink RX4 7 "StoreSlopesModel" "now" "[I") (List.mem_of_getElem? (i := 2) rfl)) (fun _ h9 => h9) rfl dX4_drift_21 ?_
          refine lv_bipush (v := nI 7) hx hb dX4_drift_24 (by decide) ?_
          obtain ⟨j_4, hj_4, ej_4⟩ := (show okN nwv by assumption).2.2.2.2.1
          refine va_iald hx hb hK hP 1 0 rfl rfl (vp_in_nI (show 7 < 93 by omega) (by omega)) dX4_drift_26 ?_
          refine tp_as (cl_as (by omega) ej_4) ?_
          refine lv_bipush (v := nI 12) hx hb dX4_drift_27 (by decide) ?_
          refine lv_icmp_ge (tgt := 92) hx hb dX4_drift_29 (by decide) (fun c_29 => ?_) (fun c_29 => ?_)
          · have c_29 := (nI_leI (by omega : 12 < 2 ^ 31) (by omega : j_4 < 2 ^ 31)).mp c_29
            refine lv_aload_n hx hb dX4_drift_92 rfl (lv_at hl 0 rfl) ?_
            refine va_get (D := (dC, dI)) (ci := 4) (v := .ref m1) (C := RX4) (T := TX4) (N := 13) hx hb hts inX4 hown hK hP 0 rfl rfl 0 (by decide) (hts (.fieldLink RX4 7 "StoreSlopesModel" "now" "[I") (List.mem_of_getElem? (i := 2) rfl)) (fun _ h9 => h9) rfl dX4_drift_93 ?_
            refine lv_bipush (v := nI 7) hx hb dX4_drift_96 (by decide) ?_
            refine va_iald hx hb hK hP 1 0 rfl rfl (vp_in_nI (show 7 < 93 by omega) (by omega)) dX4_drift_98 ?_
            refine tp_as (cl_as (by omega) ej_4) ?_
            subst hQe
            have hP9 := hP.sub (ws' := [(m0, .inr (4, [.ref m1, .ref m2, .int (nI bkv), .ref m3, .ref m4, .ref m5, .ref m6, .int sdv, .ref m7, .ref m8, .int cl, .int pc, .int op])), (m1, .inl (km1, 93, .inl nwv)), (m2, .inl (km2, 93, .inl ws)), (m3, .inl (km3, 3720, .inl bcv)), (m4, .inl (km4, 186, .inl im)), (m5, .inl (km5, 2, .inl isd)), (m6, .inl (km6, 2, .inl kp)), (m7, .inl (km7, 1525, .inl vl)), (m8, .inl (km8, 24, .inl pl))]) [0, 1, 2, 3, 4, 5, 6, 7, 8] rfl
            have hD9 := hD.sub (ws' := [(m0, .inr (4, [.ref m1, .ref m2, .int (nI bkv), .ref m3, .ref m4, .ref m5, .ref m6, .int sdv, .ref m7, .ref m8, .int cl, .int pc, .int op])), (m1, .inl (km1, 93, .inl nwv)), (m2, .inl (km2, 93, .inl ws)), (m3, .inl (km3, 3720, .inl bcv)), (m4, .inl (km4, 186, .inl im)), (m5, .inl (km5, 2, .inl isd)), (m6, .inl (km6, 2, .inl kp)), (m7, .inl (km7, 1525, .inl vl)), (m8, .inl (km8, 24, .inl pl))]) [0, 1, 2, 3, 4, 5, 6, 7, 8] (by decide) rfl
            have hK9 := hK.sub (tys' := [(km1, .int), (km2, .int), (km3, .int), (km4, .int), (km5, .int), (km6, .boolean), (km7, .int), (km8, .int)]) [0, 1, 2, 3, 4, 5, 6, 7] rfl
            subst hAe
            exact W.iret (v := (nI j_4)) hx hb hr (fun t ht hW => ⟨⟨_, _, rfl, rfl, bkv, sdv, cl, pc, op, nwv, ws, bcv, im, isd, vl, pl, (by first | assumption | omega), (by first | assumption | omega), (by first | assumption | omega), (by first | assumption | omega), (by first | assumption | omega), by rw [ht]; exact hP9, va_K.moved hW.alike hK9, hD9⟩, hS.F ht⟩) hS.2.2 dX4_drift_99
          · have c_29 := (not_congr (nI_leI (by omega : 12 < 2 ^ 31) (by omega : j_4 < 2 ^ 31))).mp c_29
            refine lv_aload_n hx hb dX4_drift_32 rfl (lv_at hl 0 rfl) ?_
            refine lv_bipush (v := nI 24) hx hb dX4_drift_33 (by decide) ?_
            have hPc := hP.sub (ws' := [(m0, .inr (4, [.ref m1, .ref m2, .int (nI bkv), .ref m3, .ref m4, .ref m5, .ref m6, .int sdv, .ref m7, .ref m8, .int cl, .int pc, .int op]))]) [0] rfl
            have hKc := hK.sub (tys' := []) [] rfl
            have hDc := hD.sub (ws' := [(m0, .inr (4, [.ref m1, .ref m2, .int (nI bkv), .ref m3, .ref m4, .ref m5, .ref m6, .int sdv, .ref m7, .ref m8, .int cl, .int pc, .int op]))]) [0] (by decide) rfl
            have hFc := va_free (wc := [(m0, .inr (4, [.ref m1, .ref m2, .int (nI bkv), .ref m3, .ref m4, .ref m5, .ref m6, .int sdv, .ref m7, .ref m8, .int cl, .int pc, .int op]))]) hD hS hA [0] rfl
            refine va_calli (va_runV (As := [.int (nI 24)]) (rest := []) ⟨hx, hb, hml, hown, hts⟩ (c_X4_drawn l dC dI m0 m1 m2 m3 m4 m5 m6 m7 m8 H.size bkv sdv cl pc op (nI 24) (by first | assumption | omega) (by decide)) (cwV 1 hts gX4_drift_X4_drawn rfl rfl rfl (by decide +kernel) ⟨Nat.le_of_ble_eq_true rfl, Nat.le_of_ble_eq_true rfl⟩) ⟨fun a U g mk q => by obtain ⟨q0, q1, qP, qK, qD⟩ := q; exact ⟨q0, q1, qP, va_K.moved (u := U) (U := U.calling g mk a) (Vm.Alike.refl U.vm) qK, qD⟩, va_recv hKc hPc (ci := 4) (q0 := 0) rfl rfl, fun U hU hW => ⟨rfl, by rw [hU], by rw [hU]; exact hPc, va_K.moved hW.alike hKc, hDc.weaken (fun _ _ _ _ => trivial)⟩⟩ rfl rfl hl.1 rfl (lv_room (Nat.le_of_ble_eq_true rfl)) dX4_drift_35 ⟨Nat.le_of_ble_eq_true rfl, Nat.le_of_ble_eq_true rfl⟩) hS (fun q _ h => hFc q h) hFc (fun r_5 u9 t9 H1 locs ht hvm hw hB hz1 hk1 hS => ?_)
            refine W.widen (k := 0) (n := 0) (Nat.le_of_ble_eq_true rfl) (Nat.le_of_ble_eq_true rfl) ?_
            obtain ⟨sd_6, h_7, hP1, hK1, hD1⟩ := hB
            rw [ht] at hP1
            have hw := hw.symm
            subst hw
            obtain ⟨hP, hD⟩ := va_join (wr := [(m1, .inl (km1, 93, .inl nwv)), (m2, .inl (km2, 93, .inl ws)), (m3, .inl (km3, 3720, .inl bcv)), (m4, .inl (km4, 186, .inl im)), (m5, .inl (km5, 2, .inl isd)), (m6, .inl (km6, 2, .inl kp)), (m7, .inl (km7, 1525, .inl vl)), (m8, .inl (km8, 24, .inl pl))]) (w1 := [(m0, .inr (4, [.ref m1, .ref m2, .int (nI bkv), .ref m3, .ref m4, .ref m5, .ref m6, .int sd_6, .ref m7, .ref m8, .int cl, .int pc, .int op]))]) hP hD [0] [1, 2, 3, 4, 5, 6, 7, 8] rfl rfl (by decide) (by decide) hk1 hFc hP1 hD1
            clear hPc hDc hKc hFc hz1 hk1 ht hvm hP1 hK1 hD1 t9
            generalize H1 = H at hP hS ⊢
            have hP := hP.sub (ws' := [(m0, .inr (4, [.ref m1, .ref m2, .int (nI bkv), .ref m3, .ref m4, .ref m5, .ref m6, .int sd_6, .ref m7, .ref m8, .int cl, .int pc, .int op])), (m1, .inl (km1, 93, .inl nwv)), (m2, .inl (km2, 93, .inl ws)), (m3, .inl (km3, 3720, .inl bcv)), (m4, .inl (km4, 186, .inl im)), (m5, .inl (km5, 2, .inl isd)), (m6, .inl (km6, 2, .inl kp)), (m7, .inl (km7, 1525, .inl vl)), (m8, .inl (km8, 24, .inl pl))]) [8, 0, 1, 2, 3, 4, 5, 6, 7] rfl
            have hD := hD.sub (ws' := [(m0, .inr (4, [.ref m1, .ref m2, .int (nI bkv), .ref m3, .ref m4, .ref m5, .ref m6, .int sd_6, .ref m7, .ref m8, .int cl, .int pc, .int op])), (m1, .inl (km1, 93, .inl nwv)), (m2, .inl (km2, 93, .inl ws)), (m3, .inl (km3, 3720, .inl bcv)), (m4, .inl (km4, 186, .inl im)), (m5, .inl (km5, 2, .inl isd)), (m6, .inl (km6, 2, .inl kp)), (m7, .inl (km7, 1525, .inl vl)), (m8, .inl (km8, 24, .inl pl))]) [8, 0, 1, 2, 3, 4, 5, 6, 7] (by decide) rfl
            refine lv_istore_n (lv' := [(3, .int r_5), (0, .ref m0), (1, .int (nI j_2)), (2, .int (nI i))]) hx hb dX4_drift_38 rfl hl (by decide) rfl (fun ls hl => ?_)
            refine lv_iload_n hx hb dX4_drift_39 rfl (lv_at hl 0 rfl) ?_
            refine lv_aload_n hx hb dX4_drift_40 rfl (lv_at hl 1 rfl) ?_
            refine lv_bipush (v := nI 24) hx hb dX4_drift_41 (by decide) ?_
            refine lv_iload_n hx hb dX4_drift_43 rfl (lv_at hl 0 rfl) ?_
            refine lv_isub hx hb dX4_drift_44 ?_
            refine lv_topi (fun y_9 ey_9 => ?_)
            have hPc := hP.sub (ws' := [(m0, .inr (4, [.ref m1, .ref m2, .int (nI bkv), .ref m3, .ref m4, .ref m5, .ref m6, .int sd_6, .ref m7, .ref m8, .int cl, .int pc, .int op]))]) [0] rfl
            have hKc := hK.sub (tys' := []) [] rfl
            have hDc := hD.sub (ws' := [(m0, .inr (4, [.ref m1, .ref m2, .int (nI bkv), .ref m3, .ref m4, .ref m5, .ref m6, .int sd_6, .ref m7, .ref m8, .int cl, .int pc, .int op]))]) [0] (by decide) rfl
            have hFc := va_free (wc := [(m0, .inr (4, [.ref m1, .ref m2, .int (nI bkv), .ref m3, .ref m4, .ref m5, .ref m6, .int sd_6, .ref m7, .ref m8, .int cl, .int pc, .int op]))]) hD hS hA [0] rfl
            refine va_calli (va_runV (As := [.int y_9]) (rest := [.int r_5]) ⟨hx, hb, hml, hown, hts⟩ (c_X4_drawn l dC dI m0 m1 m2 m3 m4 m5 m6 m7 m8 H.size bkv sd_6 cl pc op y_9 (by first | assumption | omega) (by rw [ey_9]; exact sub_ne (h_7 24 (by decide) (by decide) rfl))) (cwV 1 hts gX4_drift_X4_drawn rfl rfl rfl (by decide +kernel) ⟨Nat.le_of_ble_eq_true rfl, Nat.le_of_ble_eq_true rfl⟩) ⟨fun a U g mk q => by obtain ⟨q0, q1, qP, qK, qD⟩ := q; exact ⟨q0, q1, qP, va_K.moved (u := U) (U := U.calling g mk a) (Vm.Alike.refl U.vm) qK, qD⟩, va_recv hKc hPc (ci := 4) (q0 := 0) rfl rfl, fun U hU hW => ⟨rfl, by rw [hU], by rw [hU]; exact hPc, va_K.moved hW.alike hKc, hDc.weaken (fun _ _ _ _ => trivial)⟩⟩ rfl rfl hl.1 rfl (lv_room (Nat.le_of_ble_eq_true rfl)) dX4_drift_45 ⟨Nat.le_of_ble_eq_true rfl, Nat.le_of_ble_eq_true rfl⟩) hS (fun q _ h => hFc q h) hFc (fun r_10 u9 t9 H1 locs ht hvm hw hB hz1 hk1 hS => ?_)
            refine W.widen (k := 0) (n := 0) (Nat.le_of_ble_eq_true rfl) (Nat.le_of_ble_eq_true rfl) ?_
            obtain ⟨sd_11, h_12, hP1, hK1, hD1⟩ := hB
            rw [ht] at hP1
            have hw := hw.symm
            subst hw
            obtain ⟨hP, hD⟩ := va_join (wr := [(m1, .inl (km1, 93, .inl nwv)), (m2, .inl (km2, 93, .inl ws)), (m3, .inl (km3, 3720, .inl bcv)), (m4, .inl (km4, 186, .inl im)), (m5, .inl (km5, 2, .inl isd)), (m6, .inl (km6, 2, .inl kp)), (m7, .inl (km7, 1525, .inl vl)), (m8, .inl (km8, 24, .inl pl))]) (w1 := [(m0, .inr (4, [.ref m1, .ref m2, .int (nI bkv), .ref m3, .ref m4, .ref m5, .ref m6, .int sd_11, .ref m7, .ref m8, .int cl, .int pc, .int op]))]) hP hD [0] [1, 2, 3, 4, 5, 6, 7, 8] rfl rfl (by decide) (by decide) hk1 hFc hP1 hD1
            clear hPc hDc hKc hFc hz1 hk1 ht hvm hP1 hK1 hD1 t9
            generalize H1 = H at hP hS ⊢
            have hP := hP.sub (ws' := [(m0, .inr (4, [.ref m1, .ref m2, .int (nI bkv), .ref m3, .ref m4, .ref m5, .ref m6, .int sd_11, .ref m7, .ref m8, .int cl, .int pc, .int op])), (m1, .inl (km1, 93, .inl nwv)), (m2, .inl (km2, 93, .inl ws)), (m3, .inl (km3, 3720, .inl bcv)), (m4, .inl (km4, 186, .inl im)), (m5, .inl (km5, 2, .inl isd)), (m6, .inl (km6, 2, .inl kp)), (m7, .inl (km7, 1525, .inl vl)), (m8, .inl (km8, 24, .inl pl))]) [8, 0, 1, 2, 3, 4, 5, 6, 7] rfl
            have hD := hD.sub (ws' := [(m0, .inr (4, [.ref m1, .ref m2, .int (nI bkv), .ref m3, .ref m4, .ref m5, .ref m6, .int sd_11, .ref m7, .ref m8, .int cl, .int pc, .int op])), (m1, .inl (km1, 93, .inl nwv)), (m2, .inl (km2, 93, .inl ws)), (m3, .inl (km3, 3720, .inl bcv)), (m4, .inl (km4, 186, .inl im)), (m5, .inl (km5, 2, .inl isd)), (m6, .inl (km6, 2, .inl kp)), (m7, .inl (km7, 1525, .inl vl)), (m8, .inl (km8, 24, .inl pl))]) [8, 0, 1, 2, 3, 4, 5, 6, 7] (by decide) rfl
            refine lv_iadd hx hb dX4_drift_48 ?_
            refine tp_any (fun y_14 => ?_)
            refine lv_istore (lv' := [(4, .int y_14), (3, .int r_5), (0, .ref m0), (1, .int (nI j_2)), (2, .int (nI i))]) hx hb dX4_drift_49 hl (by decide) rfl (fun ls hl => ?_)
            refine lv_aload_n hx hb dX4_drift_51 rfl (lv_at hl 2 rfl) ?_
            refine lv_iconst (v := nI 5) hx hb dX4_drift_52 (by decide) ?_
            have hPc := hP.sub (ws' := [(m0, .inr (4, [.ref m1, .ref m2, .int (nI bkv), .ref m3, .ref m4, .ref m5, .ref m6, .int sd_11, .ref m7, .ref m8, .int cl, .int pc, .int op]))]) [0] rfl
            have hKc := hK.sub (tys' := []) [] rfl
            have hDc := hD.sub (ws' := [(m0, .inr (4, [.ref m1, .ref m2, .int (nI bkv), .ref m3, .ref m4, .ref m5, .ref m6, .int sd_11, .ref m7, .ref m8, .int cl, .int pc, .int op]))]) [0] (by decide) rfl
            have hFc := va_free (wc := [(m0, .inr (4, [.ref m1, .ref m2, .int (nI bkv), .ref m3, .ref m4, .ref m5, .ref m6, .int sd_11, .ref m7, .ref m8, .int cl, .int pc, .int op]))]) hD hS hA [0] rfl
            refine va_calli (va_runV (As := [.int (nI 5)]) (rest := []) ⟨hx, hb, hml, hown, hts⟩ (c_X4_drawn l dC dI m0 m1 m2 m3 m4 m5 m6 m7 m8 H.size bkv sd_11 cl pc op (nI 5) (by first | assumption | omega) (by decide)) (cwV 1 hts gX4_drift_X4_drawn rfl rfl rfl (by decide +kernel) ⟨Nat.le_of_ble_eq_true rfl, Nat.le_of_ble_eq_true rfl⟩) ⟨fun a U g mk q => by obtain ⟨q0, q1, qP, qK, qD⟩ := q; exact ⟨q0, q1, qP, va_K.moved (u := U) (U := U.calling g mk a) (Vm.Alike.refl U.vm) qK, qD⟩, va_recv hKc hPc (ci := 4) (q0 := 0) rfl rfl, fun U hU hW => ⟨rfl, by rw [hU], by rw [hU]; exact hPc, va_K.moved hW.alike hKc, hDc.weaken (fun _ _ _ _ => trivial)⟩⟩ rfl rfl hl.1 rfl (lv_room (Nat.le_of_ble_eq_true rfl)) dX4_drift_53 ⟨Nat.le_of_ble_eq_true rfl, Nat.le_of_ble_eq_true rfl⟩) hS (fun q _ h => hFc q h) hFc (fun r_15 u9 t9 H1 locs ht hvm hw hB hz1 hk1 hS => ?_)
            refine W.widen (k := 0) (n := 0) (Nat.le_of_ble_eq_true rfl) (Nat.le_of_ble_eq_true rfl) ?_
            obtain ⟨sd_16, h_17, hP1, hK1, hD1⟩ := hB
            rw [ht] at hP1
            have hw := hw.symm
            subst hw
            obtain ⟨hP, hD⟩ := va_join (wr := [(m1, .inl (km1, 93, .inl nwv)), (m2, .inl (km2, 93, .inl ws)), (m3, .inl (km3, 3720, .inl bcv)), (m4, .inl (km4, 186, .inl im)), (m5, .inl (km5, 2, .inl isd)), (m6, .inl (km6, 2, .inl kp)), (m7, .inl (km7, 1525, .inl vl)), (m8, .inl (km8, 24, .inl pl))]) (w1 := [(m0, .inr (4, [.ref m1, .ref m2, .int (nI bkv), .ref m3, .ref m4, .ref m5, .ref m6, .int sd_16, .ref m7, .ref m8, .int cl, .int pc, .int op]))]) hP hD [0] [1, 2, 3, 4, 5, 6, 7, 8] rfl rfl (by decide) (by decide) hk1 hFc hP1 hD1
            clear hPc hDc hKc hFc hz1 hk1 ht hvm hP1 hK1 hD1 t9
            generalize H1 = H at hP hS ⊢
            have hP := hP.sub (ws' := [(m0, .inr (4, [.ref m1, .ref m2, .int (nI bkv), .ref m3, .ref m4, .ref m5, .ref m6, .int sd_16, .ref m7, .ref m8, .int cl, .int pc, .int op])), (m1, .inl (km1, 93, .inl nwv)), (m2, .inl (km2, 93, .inl ws)), (m3, .inl (km3, 3720, .inl bcv)), (m4, .inl (km4, 186, .inl im)), (m5, .inl (km5, 2, .inl isd)), (m6, .inl (km6, 2, .inl kp)), (m7, .inl (km7, 1525, .inl vl)), (m8, .inl (km8, 24, .inl pl))]) [8, 0, 1, 2, 3, 4, 5, 6, 7] rfl
            have hD := hD.sub (ws' := [(m0, .inr (4, [.ref m1, .ref m2, .int (nI bkv), .ref m3, .ref m4, .ref m5, .ref m6, .int sd_16, .ref m7, .ref m8, .int cl, .int pc, .int op])), (m1, .inl (km1, 93, .inl nwv)), (m2, .inl (km2, 93, .inl ws)), (m3, .inl (km3, 3720, .inl bcv)), (m4, .inl (km4, 186, .inl im)), (m5, .inl (km5, 2, .inl isd)), (m6, .inl (km6, 2, .inl kp)), (m7, .inl (km7, 1525, .inl vl)), (m8, .inl (km8, 24, .inl pl))]) [8, 0, 1, 2, 3, 4, 5, 6, 7] (by decide) rfl
            refine lv_istore (lv' := [(5, .int r_15), (4, .int y_14), (3, .int r_5), (0, .ref m0), (1, .int (nI j_2)), (2, .int (nI i))]) hx hb dX4_drift_56 hl (by decide) rfl (fun ls hl => ?_)
            refine lv_aload_n hx hb dX4_drift_58 rfl (lv_at hl 3 rfl) ?_
            refine lv_bipush (v := nI 100) hx hb dX4_drift_59 (by decide) ?_
            have hPc := hP.sub (ws' := [(m0, .inr (4, [.ref m1, .ref m2, .int (nI bkv), .ref m3, .ref m4, .ref m5, .ref m6, .int sd_16, .ref m7, .ref m8, .int cl, .int pc, .int op]))]) [0] rfl
            have hKc := hK.sub (tys' := []) [] rfl
            have hDc := hD.sub (ws' := [(m0, .inr (4, [.ref m1, .ref m2, .int (nI bkv), .ref m3, .ref m4, .ref m5, .ref m6, .int sd_16, .ref m7, .ref m8, .int cl, .int pc, .int op]))]) [0] (by decide) rfl
            have hFc := va_free (wc := [(m0, .inr (4, [.ref m1, .ref m2, .int (nI bkv), .ref m3, .ref m4, .ref m5, .ref m6, .int sd_16, .ref m7, .ref m8, .int cl, .int pc, .int op]))]) hD hS hA [0] rfl
            refine va_calli (va_runV (As := [.int (nI 100)]) (rest := []) ⟨hx, hb, hml, hown, hts⟩ (c_X4_drawn l dC dI m0 m1 m2 m3 m4 m5 m6 m7 m8 H.size bkv sd_16 cl pc op (nI 100) (by first | assumption | omega) (by decide)) (cwV 1 hts gX4_drift_X4_drawn rfl rfl rfl (by decide +kernel) ⟨Nat.le_of_ble_eq_true rfl, Nat.le_of_ble_eq_true rfl⟩) ⟨fun a U g mk q => by obtain ⟨q0, q1, qP, qK, qD⟩ := q; exact ⟨q0, q1, qP, va_K.moved (u := U) (U := U.calling g mk a) (Vm.Alike.refl U.vm) qK, qD⟩, va_recv hKc hPc (ci := 4) (q0 := 0) rfl rfl, fun U hU hW => ⟨rfl, by rw [hU], by rw [hU]; exact hPc, va_K.moved hW.alike hKc, hDc.weaken (fun _ _ _ _ => trivial)⟩⟩ rfl rfl hl.1 rfl (lv_room (Nat.le_of_ble_eq_true rfl)) dX4_drift_61 ⟨Nat.le_of_ble_eq_true rfl, Nat.le_of_ble_eq_true rfl⟩) hS (fun q _ h => hFc q h) hFc (fun r_19 u9 t9 H1 locs ht hvm hw hB hz1 hk1 hS => ?_)
            refine W.widen (k := 0) (n := 0) (Nat.le_of_ble_eq_true rfl) (Nat.le_of_ble_eq_true rfl) ?_
            obtain ⟨sd_20, h_21, hP1, hK1, hD1⟩ := hB
            rw [ht] at hP1
            have hw := hw.symm
            subst hw
            obtain ⟨hP, hD⟩ := va_join (wr := [(m1, .inl (km1, 93, .inl nwv)), (m2, .inl (km2, 93, .inl ws)), (m3, .inl (km3, 3720, .inl bcv)), (m4, .inl (km4, 186, .inl im)), (m5, .inl (km5, 2, .inl isd)), (m6, .inl (km6, 2, .inl kp)), (m7, .inl (km7, 1525, .inl vl)), (m8, .inl (km8, 24, .inl pl))]) (w1 := [(m0, .inr (4, [.ref m1, .ref m2, .int (nI bkv), .ref m3, .ref m4, .ref m5, .ref m6, .int sd_20, .ref m7, .ref m8, .int cl, .int pc, .int op]))]) hP hD [0] [1, 2, 3, 4, 5, 6, 7, 8] rfl rfl (by decide) (by decide) hk1 hFc hP1 hD1
            clear hPc hDc hKc hFc hz1 hk1 ht hvm hP1 hK1 hD1 t9
            generalize H1 = H at hP hS ⊢
            have hP := hP.sub (ws' := [(m0, .inr (4, [.ref m1, .ref m2, .int (nI bkv), .ref m3, .ref m4, .ref m5, .ref m6, .int sd_20, .ref m7, .ref m8, .int cl, .int pc, .int op])), (m1, .inl (km1, 93, .inl nwv)), (m2, .inl (km2, 93, .inl ws)), (m3, .inl (km3, 3720, .inl bcv)), (m4, .inl (km4, 186, .inl im)), (m5, .inl (km5, 2, .inl isd)), (m6, .inl (km6, 2, .inl kp)), (m7, .inl (km7, 1525, .inl vl)), (m8, .inl (km8, 24, .inl pl))]) [8, 0, 1, 2, 3, 4, 5, 6, 7] rfl
            have hD := hD.sub (ws' := [(m0, .inr (4, [.ref m1, .ref m2, .int (nI bkv), .ref m3, .ref m4, .ref m5, .ref m6, .int sd_20, .ref m7, .ref m8, .int cl, .int pc, .int op])), (m1, .inl (km1, 93, .inl nwv)), (m2, .inl (km2, 93, .inl ws)), (m3, .inl (km3, 3720, .inl bcv)), (m4, .inl (km4, 186, .inl im)), (m5, .inl (km5, 2, .inl isd)), (m6, .inl (km6, 2, .inl kp)), (m7, .inl (km7, 1525, .inl vl)), (m8, .inl (km8, 24, .inl pl))]) [8, 0, 1, 2, 3, 4, 5, 6, 7] (by decide) rfl
            refine lv_istore (lv' := [(6, .int r_19), (5, .int r_15), (4, .int y_14), (3, .int r_5), (0, .ref m0), (1, .int (nI j_2)), (2, .int (nI i))]) hx hb dX4_drift_64 hl (by decide) rfl (fun ls hl => ?_)
            refine lv_aload_n hx hb dX4_drift_66 rfl (lv_at hl 4 rfl) ?_
            refine lv_iload_n hx hb dX4_drift_67 rfl (lv_at hl 3 rfl) ?_
            refine lv_iload hx hb dX4_drift_68 (lv_at hl 2 rfl) ?_
            refine lv_iload hx hb dX4_drift_70 (lv_at hl 1 rfl) ?_
            refine lv_iload hx hb dX4_drift_72 (lv_at hl 0 rfl) ?_
            refine lv_aload_n hx hb dX4_drift_74 rfl (lv_at hl 4 rfl) ?_
            refine lv_bipush (v := nI 19) hx hb dX4_drift_75 (by decide) ?_
            have hPc := hP.sub (ws' := [(m0, .inr (4, [.ref m1, .ref m2, .int (nI bkv), .ref m3, .ref m4, .ref m5, .ref m6, .int sd_20, .ref m7, .ref m8, .int cl, .int pc, .int op]))]) [0] rfl
            have hKc := hK.sub (tys' := []) [] rfl
            have hDc := hD.sub (ws' := [(m0, .inr (4, [.ref m1, .ref m2, .int (nI bkv), .ref m3, .ref m4, .ref m5, .ref m6, .int sd_20, .ref m7, .ref m8, .int cl, .int pc, .int op]))]) [0] (by decide) rfl
            have hFc := va_free (wc := [(m0, .inr (4, [.ref m1, .ref m2, .int (nI bkv), .ref m3, .ref m4, .ref m5, .ref m6, .int sd_20, .ref m7, .ref m8, .int cl, .int pc, .int op]))]) hD hS hA [0] rfl
            refine va_calli (va_runV (As := [.int (nI 19)]) (rest := [.int r_19, .int r_15, .int y_14, .int r_5, .ref m0]) ⟨hx, hb, hml, hown, hts⟩ (c_X4_drawn l dC dI m0 m1 m2 m3 m4 m5 m6 m7 m8 H.size bkv sd_20 cl pc op (nI 19) (by first | assumption | omega) (by decide)) (cwV 1 hts gX4_drift_X4_drawn rfl rfl rfl (by decide +kernel) ⟨Nat.le_of_ble_eq_true rfl, Nat.le_of_ble_eq_true rfl⟩) ⟨fun a U g mk q => by obtain ⟨q0, q1, qP, qK, qD⟩ := q; exact ⟨q0, q1, qP, va_K.moved (u := U) (U := U.calling g mk a) (Vm.Alike.refl U.vm) qK, qD⟩, va_recv hKc hPc (ci := 4) (q0 := 0) rfl rfl, fun U hU hW => ⟨rfl, by rw [hU], by rw [hU]; exact hPc, va_K.moved hW.alike hKc, hDc.weaken (fun _ _ _ _ => trivial)⟩⟩ rfl rfl hl.1 rfl (lv_room (Nat.le_of_ble_eq_true rfl)) dX4_drift_77 ⟨Nat.le_of_ble_eq_true rfl, Nat.le_of_ble_eq_true rfl⟩) hS (fun q _ h => hFc q h) hFc (fun r_23 u9 t9 H1 locs ht hvm hw hB hz1 hk1 hS => ?_)
            refine W.widen (k := 0) (n := 0) (Nat.le_of_ble_eq_true rfl) (Nat.le_of_ble_eq_true rfl) ?_
            obtain ⟨sd_24, h_25, hP1, hK1, hD1⟩ := hB
            rw [ht] at hP1
            have hw := hw.symm
            subst hw
            obtain ⟨hP, hD⟩ := va_join (wr := [(m1, .inl (km1, 93, .inl nwv)), (m2, .inl (km2, 93, .inl ws)), (m3, .inl (km3, 3720, .inl bcv)), (m4, .inl (km4, 186, .inl im)), (m5, .inl (km5, 2, .inl isd)), (m6, .inl (km6, 2, .inl kp)), (m7, .inl (km7, 1525, .inl vl)), (m8, .inl (km8, 24, .inl pl))]) (w1 := [(m0, .inr (4, [.ref m1, .ref m2, .int (nI bkv), .ref m3, .ref m4, .ref m5, .ref m6, .int sd_24, .ref m7, .ref m8, .int cl, .int pc, .int op]))]) hP hD [0] [1, 2, 3, 4, 5, 6, 7, 8] rfl rfl (by decide) (by decide) hk1 hFc hP1 hD1
            clear hPc hDc hKc hFc hz1 hk1 ht hvm hP1 hK1 hD1 t9
            generalize H1 = H at hP hS ⊢
            have hP := hP.sub (ws' := [(m0, .inr (4, [.ref m1, .ref m2, .int (nI bkv), .ref m3, .ref m4, .ref m5, .ref m6, .int sd_24, .ref m7, .ref m8, .int cl, .int pc, .int op])), (m1, .inl (km1, 93, .inl nwv)), (m2, .inl (km2, 93, .inl ws)), (m3, .inl (km3, 3720, .inl bcv)), (m4, .inl (km4, 186, .inl im)), (m5, .inl (km5, 2, .inl isd)), (m6, .inl (km6, 2, .inl kp)), (m7, .inl (km7, 1525, .inl vl)), (m8, .inl (km8, 24, .inl pl))]) [8, 0, 1, 2, 3, 4, 5, 6, 7] rfl
            have hD := hD.sub (ws' := [(m0, .inr (4, [.ref m1, .ref m2, .int (nI bkv), .ref m3, .ref m4, .ref m5, .ref m6, .int sd_24, .ref m7, .ref m8, .int cl, .int pc, .int op])), (m1, .inl (km1, 93, .inl nwv)), (m2, .inl (km2, 93, .inl ws)), (m3, .inl (km3, 3720, .inl bcv)), (m4, .inl (km4, 186, .inl im)), (m5, .inl (km5, 2, .inl isd)), (m6, .inl (km6, 2, .inl kp)), (m7, .inl (km7, 1525, .inl vl)), (m8, .inl (km8, 24, .inl pl))]) [8, 0, 1, 2, 3, 4, 5, 6, 7] (by decide) rfl
            refine lv_bipush (v := nI 9) hx hb dX4_drift_80 (by decide) ?_
            refine lv_isub hx hb dX4_drift_82 ?_
            refine tp_any (fun y_27 => ?_)
            have hPc := hP.sub (ws' := [(m0, .inr (4, [.ref m1, .ref m2, .int (nI bkv), .ref m3, .ref m4, .ref m5, .ref m6, .int sd_24, .ref m7, .ref m8, .int cl, .int pc, .int op])), (m1, .inl (km1, 93, .inl nwv)), (m3, .inl (km3, 3720, .inl bcv))]) [0, 1, 3] rfl
            have hKc := hK.sub (tys' := [(km1, .int), (km3, .int)]) [0, 2] rfl
            have hDc := hD.sub (ws' := [(m0, .inr (4, [.ref m1, .ref m2, .int (nI bkv), .ref m3, .ref m4, .ref m5, .ref m6, .int sd_24, .ref m7, .ref m8, .int cl, .int pc, .int op])), (m1, .inl (km1, 93, .inl nwv)), (m3, .inl (km3, 3720, .inl bcv))]) [0, 1, 3] (by decide) rfl
            have hFc := va_free (wc := [(m0, .inr (4, [.ref m1, .ref m2, .int (nI bkv), .ref m3, .ref m4, .ref m5, .ref m6, .int sd_24, .ref m7, .ref m8, .int cl, .int pc, .int op])), (m1, .inl (km1, 93, .inl nwv)), (m3, .inl (km3, 3720, .inl bcv))]) hD hS hA [0, 1, 3] rfl
            refine va_callv (va_runV (As := [.int r_5, .int y_14, .int r_15, .int r_19, .int y_27]) (rest := []) ⟨hx, hb, hml, hown, hts⟩ (c_X4_addLaw l dC dI m0 m1 m3 m2 m4 m5 m6 m7 m8 km1 km3 H.size bkv sd_24 cl pc op nwv bcv r_5 y_14 r_15 r_19 y_27 (by first | assumption | omega) (by first | assumption | omega) (by first | assumption | omega) ⟨j_4, by omega, ej_4⟩) (cwV 5 hts gX4_drift_X4_addLaw rfl rfl rfl (by decide +kernel) ⟨Nat.le_of_ble_eq_true rfl, Nat.le_of_ble_eq_true rfl⟩) ⟨fun a U g mk q => by obtain ⟨q0, q1, qP, qK, qD⟩ := q; exact ⟨q0, q1, qP, va_K.moved (u := U) (U := U.calling g mk a) (Vm.Alike.refl U.vm) qK, qD⟩, va_recv hKc hPc (ci := 4) (q0 := 0) rfl rfl, fun U hU hW => ⟨rfl, by rw [hU], by rw [hU]; exact hPc, va_K.moved hW.alike hKc, hDc.weaken (fun _ _ _ _ => trivial)⟩⟩ rfl rfl hl.1 rfl (lv_room (Nat.le_of_ble_eq_true rfl)) dX4_drift_83 ⟨Nat.le_of_ble_eq_true rfl, Nat.le_of_ble_eq_true rfl⟩) hS (fun q _ h => hFc q h) hFc (fun u9 t9 H1 locs ht hvm hw hB hz1 hk1 hS => ?_)
            refine W.widen (k := 0) (n := 0) (Nat.le_of_ble_eq_true rfl) (Nat.le_of_ble_eq_true rfl) ?_
            obtain ⟨⟩ := u9
            obtain ⟨bk_29, bc_30, nw_31, h_32, h_33, h_34, hP1, hK1, hD1⟩ := hB
            rw [ht] at hP1
            obtain ⟨hP, hD⟩ := va_join (wr := [(m2, .inl (km2, 93, .inl ws)), (m4, .inl (km4, 186, .inl im)), (m5, .inl (km5, 2, .inl isd)), (m6, .inl (km6, 2, .inl kp)), (m7, .inl (km7, 1525, .inl vl)), (m8, .inl (km8, 24, .inl pl))]) (w1 := [(m0, .inr (4, [.ref m1, .ref m2, .int (nI bk_29), .ref m3, .ref m4, .ref m5, .ref m6, .int sd_24, .ref m7, .ref m8, .int cl, .int pc, .int op])), (m1, .inl (km1, 93, .inl nw_31)), (m3, .inl (km3, 3720, .inl bc_30))]) hP hD [0, 1, 3] [2, 4, 5, 6, 7, 8] rfl rfl (by decide) (by decide) hk1 hFc hP1 hD1
            clear hPc hDc hKc hFc hz1 hk1 ht hvm hP1 hK1 hD1 hw t9
            generalize H1 = H at hP hS ⊢
            have hP := hP.sub (ws' := [(m0, .inr (4, [.ref m1, .ref m2, .int (nI bk_29), .ref m3, .ref m4, .ref m5, .ref m6, .int sd_24, .ref m7, .ref m8, .int cl, .int pc, .int op])), (m1, .inl (km1, 93, .inl nw_31)), (m2, .inl (km2, 93, .inl ws)), (m3, .inl (km3, 3720, .inl bc_30)), (m4, .inl (km4, 186, .inl im)), (m5, .inl (km5, 2, .inl isd)), (m6, .inl (km6, 2, .inl kp)), (m7, .inl (km7, 1525, .inl vl)), (m8, .inl (km8, 24, .inl pl))]) [6, 7, 0, 8, 1, 2, 3, 4, 5] rfl
            have hD := hD.sub (ws' := [(m0, .inr (4, [.ref m1, .ref m2, .int (nI bk_29), .ref m3, .ref m4, .ref m5, .ref m6, .int sd_24, .ref m7, .ref m8, .int cl, .int pc, .int op])), (m1, .inl (km1, 93, .inl nw_31)), (m2, .inl (km2, 93, .inl ws)), (m3, .inl (km3, 3720, .inl bc_30)), (m4, .inl (km4, 186, .inl im)), (m5, .inl (km5, 2, .inl isd)), (m6, .inl (km6, 2, .inl kp)), (m7, .inl (km7, 1525, .inl vl)), (m8, .inl (km8, 24, .inl pl))]) [6, 7, 0, 8, 1, 2, 3, 4, 5] (by decide) rfl
            refine lv_iinc (v := nI (i + 1)) (lv' := [(2, .int (nI (i + 1))), (6, .int r_19), (5, .int r_15), (4, .int y_14), (3, .int r_5), (0, .ref m0), (1, .int (nI j_2))]) hx hb dX4_drift_86 hl (k := 6) rfl (inc_n i 1) (by decide) rfl (fun ls hl => ?_)
            refine lv_goto (tgt := 15) hx hb dX4_drift_89 (by decide) ?_
            exact ih15 (i + 1) bk_29 sd_24 nw_31 bc_30 _ _ _ (by first | assumption | omega) (by first | assumption | omega) (by first | assumption | omega) (by first | assumption | omega) (by omega) hP hD hS (lv_sub hl [5, 6, 0] rfl)
    exact L15 (12 - 0 + 1) 0 bk sd nw bc _ _ _ (by first | assumption | omega) (by first | assumption | omega) (by first | assumption | omega) (by first | assumption | omega) (Nat.lt_succ_self _) hP hD hS (lv_sub hl [1, 2, 0] rfl)
  · have nc_7 := b_0 wr_1 c_7
    refine lv_ldc (own := RX4) (v := (-1000000002)) hx hb hown (hts (.constant RX4 110 (-1000000002)) (List.mem_of_getElem? (i := 1) rfl)) dX4_drift_10 ?_
    subst hQe
    have hP9 := hP.sub (ws' := [(m0, .inr (4, [.ref m1, .ref m2, .int (nI bk), .ref m3, .ref m4, .ref m5, .ref m6, .int sd, .ref m7, .ref m8, .int cl, .int pc, .int op])), (m1, .inl (km1, 93, .inl nw)), (m2, .inl (km2, 93, .inl ws)), (m3, .inl (km3, 3720, .inl bc)), (m4, .inl (km4, 186, .inl im)), (m5, .inl (km5, 2, .inl isd)), (m6, .inl (km6, 2, .inl kp)), (m7, .inl (km7, 1525, .inl vl)), (m8, .inl (km8, 24, .inl pl))]) [0, 1, 2, 3, 4, 5, 6, 7, 8] rfl
    have hD9 := hD.sub (ws' := [(m0, .inr (4, [.ref m1, .ref m2, .int (nI bk), .ref m3, .ref m4, .ref m5, .ref m6, .int sd, .ref m7, .ref m8, .int cl, .int pc, .int op])), (m1, .inl (km1, 93, .inl nw)), (m2, .inl (km2, 93, .inl ws)), (m3, .inl (km3, 3720, .inl bc)), (m4, .inl (km4, 186, .inl im)), (m5, .inl (km5, 2, .inl isd)), (m6, .inl (km6, 2, .inl kp)), (m7, .inl (km7, 1525, .inl vl)), (m8, .inl (km8, 24, .inl pl))]) [0, 1, 2, 3, 4, 5, 6, 7, 8] (by decide) rfl
    have hK9 := hK.sub (tys' := [(km1, .int), (km2, .int), (km3, .int), (km4, .int), (km5, .int), (km6, .boolean), (km7, .int), (km8, .int)]) [0, 1, 2, 3, 4, 5, 6, 7] rfl
    subst hAe
    exact W.iret (v := ((-1000000002))) hx hb hr (fun t ht hW => ⟨⟨_, _, rfl, rfl, bk, sd, cl, pc, op, nw, ws, bc, im, isd, vl, pl, (by first | assumption | omega), (by first | assumption | omega), (by first | assumption | omega), (by first | assumption | omega), (by first | assumption | omega), by rw [ht]; exact hP9, va_K.moved hW.alike hK9, hD9⟩, hS.F ht⟩) hS.2.2 dX4_drift_12
