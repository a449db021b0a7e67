set_option maxHeartbeats 4000000 in
set_option maxRecDepth 100000 in
theorem c_X4_in (l : Launch) (dC : Nat → ClassId) (dI : Nat → Nat → Nat) (v : Int32) (lo : Int32) (hi : Int32) : Met l yX4_in wsX4_in ({ frames := 0, cells := 0, slots := 0, locals := 0 }) (va_Pc [.int v, .int lo, .int hi] (fun _ => True)) (va_Qi (fun r (_ : Unit) => (r = 0 ∧ (v < lo ∨ hi < v)) ∨ (r = 1 ∧ (¬ v < lo ∧ ¬ hi < v))) (fun _ _ => True) (fun _ => False)) 0 0 (fun _ => False) := by
  refine Met.ofW (cc := cX4_in) (maxL := 3) (ret := (some .boolean)) (by decide) rfl ?_
  intro p e s m args below meth c s₁ B hml hv
  obtain ⟨rfl, -⟩ := hv
  have hx := B.exec
  have hb := B.bytes
  have hr := B.returns
  have hts := atoms_spec (ws := wsX4_in) B.pre
  have hown : s.vm.findClass RX4 = some m.cls := findClass_of_methodNamed B.named
  have hlocks := B.notSynchronized
  have hS : va_S (fun _ => False) s.heap s.heap [] := va_S.rf
  have hl := lv_entry ([.int v, .int lo, .int hi]) (n := 3) (Nat.le_of_ble_eq_true rfl)
  rw [lg_entry_eq]
  generalize (lg_sl ([.int v, .int lo, .int hi]) ++ List.replicate (3 - (lg_sl ([.int v, .int lo, .int hi])).length) Slot.unset).toArray = ls at hl ⊢
  generalize hQe : MQ below _ _ s 0 0 _ = Q
  generalize ([.int v, .int lo, .int hi] : List Value).toArray = args at hts hQe ⊢
  have hl : lv_has ls 3 [(0, .int v), (1, .int lo), (2, .int hi)] := hl
  refine lv_iload_n hx hb dX4_in_0 rfl (lv_at hl 0 rfl) ?_
  refine lv_iload_n hx hb dX4_in_1 rfl (lv_at hl 1 rfl) ?_
  refine lv_icmp_lt (tgt := 14) hx hb dX4_in_2 (by decide) (fun c_2 => ?_) (fun c_2 => ?_)
  · refine lv_iconst (v := nI 0) hx hb dX4_in_14 (by decide) ?_
    subst hQe
    exact W.zret (v := (nI 0)) hx hb hr (by decide) (fun t ht hW => ⟨⟨_, (), rfl, Or.inl ⟨rfl, by first | exact Or.inl c_2 | exact Or.inr c_7⟩, trivial⟩, hS.F ht⟩) hS.2.2 dX4_in_15
  · refine lv_iload_n hx hb dX4_in_5 rfl (lv_at hl 0 rfl) ?_
    refine lv_iload_n hx hb dX4_in_6 rfl (lv_at hl 2 rfl) ?_
    refine lv_icmp_gt (tgt := 14) hx hb dX4_in_7 (by decide) (fun c_7 => ?_) (fun c_7 => ?_)
    · refine lv_iconst (v := nI 0) hx hb dX4_in_14 (by decide) ?_
      subst hQe
      exact W.zret (v := (nI 0)) hx hb hr (by decide) (fun t ht hW => ⟨⟨_, (), rfl, Or.inl ⟨rfl, by first | exact Or.inl c_2 | exact Or.inr c_7⟩, trivial⟩, hS.F ht⟩) hS.2.2 dX4_in_15
    · refine lv_iconst (v := nI 1) hx hb dX4_in_10 (by decide) ?_
      refine lv_goto (tgt := 15) hx hb dX4_in_11 (by decide) ?_
      subst hQe
      exact W.zret (v := (nI 1)) hx hb hr (by decide) (fun t ht hW => ⟨⟨_, (), rfl, Or.inr ⟨rfl, c_2, c_7⟩, trivial⟩, hS.F ht⟩) hS.2.2 dX4_in_15
set_option maxHeartbeats 4000000 in
set_option maxRecDepth 100000 in
theorem c_X4_isHour (l : Launch) (dC : Nat → ClassId) (dI : Nat → Nat → Nat) (i : Int32) : Met l yX4_isHour wsX4_isHour ({ frames := 1, cells := 0, slots := 0, locals := 22 }) (va_Pc [.int i] (fun _ => True)) (va_Qi (fun r (_ : Unit) => (r = 0 ∧ ¬ ∃ j : Nat, j ≤ 23 ∧ i = nI j) ∨ (r = 1 ∧ ∃ j : Nat, j ≤ 23 ∧ i = nI j)) (fun _ _ => True) (fun _ => False)) 0 0 (fun _ => False) := by
  refine Met.ofW (cc := cX4_isHour) (maxL := 1) (ret := (some .boolean)) (by decide) rfl ?_
  intro p e s m args below meth c s₁ B hml hv
  obtain ⟨rfl, -⟩ := hv
  have hx := B.exec
  have hb := B.bytes
  have hr := B.returns
  have hts := atoms_spec (ws := wsX4_isHour) B.pre
  have hown : s.vm.findClass RX4 = some m.cls := findClass_of_methodNamed B.named
  have hlocks := B.notSynchronized
  have hS : va_S (fun _ => False) s.heap s.heap [] := va_S.rf
  have hl := lv_entry ([.int i]) (n := 1) (Nat.le_of_ble_eq_true rfl)
  rw [lg_entry_eq]
  generalize (lg_sl ([.int i]) ++ List.replicate (1 - (lg_sl ([.int i])).length) Slot.unset).toArray = ls at hl ⊢
  generalize hQe : MQ below _ _ s 0 0 _ = Q
  generalize ([.int i] : List Value).toArray = args at hts hQe ⊢
  have hl : lv_has ls 1 [(0, .int i)] := hl
  refine lv_iload_n hx hb dX4_isHour_0 rfl (lv_at hl 0 rfl) ?_
  refine lv_iconst (v := nI 0) hx hb dX4_isHour_1 (by decide) ?_
  refine lv_bipush (v := nI 23) hx hb dX4_isHour_2 (by decide) ?_
  refine va_calli (va_runS (As := [.int i, .int (nI 0), .int (nI 23)]) (rest := []) ⟨hx, hb, hml, hown, hts⟩ (c_X4_in l dC dI   i (nI 0) (nI 23)  ) (va_cwS 3 hts gX4_isHour_X4_in rfl rfl rfl (by decide +kernel) ⟨Nat.le_of_ble_eq_true rfl, Nat.le_of_ble_eq_true rfl⟩) ⟨fun a U g mk q => q, fun U hU hW => ⟨rfl, trivial⟩⟩ rfl rfl hl.1 rfl (lv_room (Nat.le_of_ble_eq_true rfl)) dX4_isHour_4 ⟨Nat.le_of_ble_eq_true rfl, Nat.le_of_ble_eq_true rfl⟩) hS (fun q _ h => h.elim) (fun q h => h.elim) (fun r_1 u9 t9 H1 locs ht hvm hw hB hz1 hk1 hS => ?_)
  refine W.widen (k := 0) (n := 0) (Nat.le_of_ble_eq_true rfl) (Nat.le_of_ble_eq_true rfl) ?_
  clear hz1 hk1 hB ht hvm t9
  generalize H1 = H at hS ⊢
  have wr_1 := hw
  clear hw
  subst hQe
  exact W.zret (v := r_1) hx hb hr (bz wr_1) (fun t ht hW => ⟨⟨_, (), rfl, in_idx (by decide) wr_1, trivial⟩, hS.F ht⟩) hS.2.2 dX4_isHour_7
set_option maxHeartbeats 4000000 in
set_option maxRecDepth 100000 in
theorem c_X4_away (l : Launch) (dC : Nat → ClassId) (dI : Nat → Nat → Nat) (v : Int32) : Met l yX4_away wsX4_away ({ frames := 0, cells := 0, slots := 0, locals := 0 }) (va_Pc [.int v] (fun _ => True)) (va_Qi (fun r (_ : Unit) => r = mp_aw v) (fun _ _ => True) (fun _ => False)) 0 0 (fun _ => False) := by
  refine Met.ofW (cc := cX4_away) (maxL := 1) (ret := (some .int)) (by decide) rfl ?_
  intro p e s m args below meth c s₁ B hml hv
  obtain ⟨rfl, -⟩ := hv
  have hx := B.exec
  have hb := B.bytes
  have hr := B.returns
  have hts := atoms_spec (ws := wsX4_away) B.pre
  have hown : s.vm.findClass RX4 = some m.cls := findClass_of_methodNamed B.named
  have hlocks := B.notSynchronized
  have hS : va_S (fun _ => False) s.heap s.heap [] := va_S.rf
  have hl := lv_entry ([.int v]) (n := 1) (Nat.le_of_ble_eq_true rfl)
  rw [lg_entry_eq]
  generalize (lg_sl ([.int v]) ++ List.replicate (1 - (lg_sl ([.int v])).length) Slot.unset).toArray = ls at hl ⊢
  generalize hQe : MQ below _ _ s 0 0 _ = Q
  generalize ([.int v] : List Value).toArray = args at hts hQe ⊢
  have hl : lv_has ls 1 [(0, .int v)] := hl
  refine lv_iload_n hx hb dX4_away_0 rfl (lv_at hl 0 rfl) ?_
  refine lv_if_ge (tgt := 9) hx hb dX4_away_1 (by decide) (fun c_1 => ?_) (fun c_1 => ?_)
  · refine lv_iload_n hx hb dX4_away_9 rfl (lv_at hl 0 rfl) ?_
    subst hQe
    exact W.iret (v := v) hx hb hr (fun t ht hW => ⟨⟨_, (), rfl, (by rw [mp_aw, if_pos c_1]), trivial⟩, hS.F ht⟩) hS.2.2 dX4_away_10
  · refine lv_iload_n hx hb dX4_away_4 rfl (lv_at hl 0 rfl) ?_
    refine lv_ineg hx hb dX4_away_5 ?_
    refine lv_goto (tgt := 10) hx hb dX4_away_6 (by decide) ?_
    subst hQe
    exact W.iret (v := (-v)) hx hb hr (fun t ht hW => ⟨⟨_, (), rfl, (by rw [mp_aw, if_neg c_1]), trivial⟩, hS.F ht⟩) hS.2.2 dX4_away_10
set_option maxHeartbeats 4000000 in
set_option maxRecDepth 100000 in
theorem c_X4_shown (l : Launch) (dC : Nat → ClassId) (dI : Nat → Nat → Nat) (v : Int32) : Met l yX4_shown wsX4_shown ({ frames := 0, cells := 0, slots := 0, locals := 0 }) (va_Pc [.int v] (fun _ => True)) (va_Qi (fun r (_ : Unit) => True) (fun _ _ => True) (fun _ => False)) 0 0 (fun _ => False) := by
  refine Met.ofW (cc := cX4_shown) (maxL := 1) (ret := (some .int)) (by decide) rfl ?_
  intro p e s m args below meth c s₁ B hml hv
  obtain ⟨rfl, -⟩ := hv
  have hx := B.exec
  have hb := B.bytes
  have hr := B.returns
  have hts := atoms_spec (ws := wsX4_shown) B.pre
  have hown : s.vm.findClass RX4 = some m.cls := findClass_of_methodNamed B.named
  have hlocks := B.notSynchronized
  have hS : va_S (fun _ => False) s.heap s.heap [] := va_S.rf
  have hl := lv_entry ([.int v]) (n := 1) (Nat.le_of_ble_eq_true rfl)
  rw [lg_entry_eq]
  generalize (lg_sl ([.int v]) ++ List.replicate (1 - (lg_sl ([.int v])).length) Slot.unset).toArray = ls at hl ⊢
  generalize hQe : MQ below _ _ s 0 0 _ = Q
  generalize ([.int v] : List Value).toArray = args at hts hQe ⊢
  have hl : lv_has ls 1 [(0, .int v)] := hl
  refine lv_iload_n hx hb dX4_shown_0 rfl (lv_at hl 0 rfl) ?_
  refine lv_ldc (own := RX4) (v := (-500000000)) hx hb hown (hts (.constant RX4 67 (-500000000)) (List.mem_of_getElem? (i := 1) rfl)) dX4_shown_1 ?_
  refine lv_icmp_ne (tgt := 10) hx hb dX4_shown_3 (by decide) (fun c_3 => ?_) (fun c_3 => ?_)
  · refine lv_iload_n hx hb dX4_shown_10 rfl (lv_at hl 0 rfl) ?_
    refine lv_ldc (own := RX4) (v := (1000000)) hx hb hown (hts (.constant RX4 82 (1000000)) (List.mem_of_getElem? (i := 2) rfl)) dX4_shown_11 ?_
    refine lv_iadd hx hb dX4_shown_13 ?_
    refine tp_any (fun y_1 => ?_)
    subst hQe
    exact W.iret (v := y_1) hx hb hr (fun t ht hW => ⟨⟨_, (), rfl, trivial, trivial⟩, hS.F ht⟩) hS.2.2 dX4_shown_14
  · refine lv_iconst (v := (-1)) hx hb dX4_shown_6 (by decide) ?_
    refine lv_goto (tgt := 14) hx hb dX4_shown_7 (by decide) ?_
    subst hQe
    exact W.iret (v := ((-1))) hx hb hr (fun t ht hW => ⟨⟨_, (), rfl, trivial, trivial⟩, hS.F ht⟩) hS.2.2 dX4_shown_14
set_option maxHeartbeats 4000000 in
set_option maxRecDepth 100000 in
theorem c_X4_bring (l : Launch) (dC : Nat → ClassId) (dI : Nat → Nat → Nat) (f0 gx0 : Nat) (kf0 kg0 : ClassId) (sz : Nat) (N0 : Nat) (ff : Nat → Int32) (N1 : Nat) (gg : Nat → Int32) (sp : Nat) (dp : Nat) (len : Nat) (g0 : sp + len ≤ N0) (g1 : dp + len ≤ N1) (g2 : N0 < 2 ^ 30) (g3 : N1 < 2 ^ 30) : Met l yX4_bring wsX4_bring ({ frames := 0, cells := 0, slots := 0, locals := 0 }) (va_Pc [.ref f0, .int (nI sp), .ref gx0, .int (nI dp), .int (nI len)] (fun U => U.heap.size = sz ∧ va_P (dC, dI) vwCl [(f0, .inl (kf0, N0, .inl ff)), (gx0, .inl (kg0, N1, .inl gg))] U.heap ∧ va_K (dC, dI) vwCl [(kf0, .int), (kg0, .int)] U ∧ va_D (fun _ => True) [(f0, .inl (kf0, N0, .inl ff)), (gx0, .inl (kg0, N1, .inl gg))])) (va_Qv (fun _ : Unit => True) (fun _ t => ∃ (gg' : Nat → Int32), gg' = va_cpy ff gg sp dp len ∧ va_P (dC, dI) vwCl [(f0, .inl (kf0, N0, .inl ff)), (gx0, .inl (kg0, N1, .inl gg'))] t.heap ∧ va_K (dC, dI) vwCl [(kf0, .int), (kg0, .int)] t ∧ va_D (va_A [(f0, .inl (kf0, N0, .inl ff)), (gx0, .inl (kg0, N1, .inl gg))] sz) [(f0, .inl (kf0, N0, .inl ff)), (gx0, .inl (kg0, N1, .inl gg'))]) (va_A [(f0, .inl (kf0, N0, .inl ff)), (gx0, .inl (kg0, N1, .inl gg))] sz)) 0 0 (va_A [(f0, .inl (kf0, N0, .inl ff)), (gx0, .inl (kg0, N1, .inl gg))] sz) := by
  refine Met.ofW (cc := cX4_bring) (maxL := 6) (ret := none) (by decide) rfl ?_
  intro p e s m args below meth c s₁ B hml hv
  obtain ⟨rfl, hsz, hP, hK, hD0⟩ := hv
  have hx := B.exec
  have hb := B.bytes
  have hr := B.returns
  have hts := atoms_spec (ws := wsX4_bring) B.pre
  have hown : s.vm.findClass RX4 = some m.cls := findClass_of_methodNamed B.named
  have hlocks := B.notSynchronized
  subst hsz
  have hD := hD0.self (sz := s.heap.size)
  generalize hAe : va_A [(f0, .inl (kf0, N0, .inl ff)), (gx0, .inl (kg0, N1, .inl gg))] s.heap.size = A at hD ⊢
  have hA : ∀ q : Nat, s.heap.size ≤ q → A q := fun q h => by rw [← hAe]; exact Or.inr h
  have hS : va_S A s.heap s.heap [] := va_S.rf
  have hl := lv_entry ([.ref f0, .int (nI sp), .ref gx0, .int (nI dp), .int (nI len)]) (n := 6) (Nat.le_of_ble_eq_true rfl)
  rw [lg_entry_eq]
  generalize (lg_sl ([.ref f0, .int (nI sp), .ref gx0, .int (nI dp), .int (nI len)]) ++ List.replicate (6 - (lg_sl ([.ref f0, .int (nI sp), .ref gx0, .int (nI dp), .int (nI len)])).length) Slot.unset).toArray = ls at hl ⊢
  generalize hQe : MQ below _ _ s 0 0 _ = Q
  generalize ([.ref f0, .int (nI sp), .ref gx0, .int (nI dp), .int (nI len)] : List Value).toArray = args at hts hQe ⊢
  have hl : lv_has ls 6 [(0, .ref f0), (1, .int (nI sp)), (2, .ref gx0), (3, .int (nI dp)), (4, .int (nI len))] := hl
  refine lv_iconst (v := nI 0) hx hb dX4_bring_0 (by decide) ?_
  refine lv_istore (lv' := [(5, .int (nI 0)), (0, .ref f0), (1, .int (nI sp)), (2, .ref gx0), (3, .int (nI dp)), (4, .int (nI len))]) hx hb dX4_bring_1 hl (by decide) rfl (fun ls hl => ?_)
  have L3 : ∀ (n : Nat) (i : Nat) (gv : Nat → Int32) (H : Heap) (locs : List Loc) (ls : Array Slot), i ≤ len → gv = va_cpy ff gg sp dp i → len - i < n → va_P (dC, dI) vwCl [(f0, .inl (kf0, N0, .inl ff)), (gx0, .inl (kg0, N1, .inl gv))] H → va_D A [(f0, .inl (kf0, N0, .inl ff)), (gx0, .inl (kg0, N1, .inl gv))] → va_S A s.heap H locs → lv_has ls 6 [(0, .ref f0), (1, .int (nI sp)), (2, .ref gx0), (3, .int (nI dp)), (4, .int (nI len)), (5, .int (nI i))] → W p l e (headSpec wsX4_bring { frames := 0, cells := 0, slots := 0, locals := 0 }).room s m args below meth c H locs 0 0 Q (F0 m 3 ls []) := by
    intro n
    induction n with
    | zero => intro i gv H locs ls hL3_0 hL3_1 hn; exact absurd hn (Nat.not_lt_zero _)
    | succ n ih3 =>
      intro i gv H locs ls hL3_0 hL3_1 hn hP hD hS hl
      refine lv_iload hx hb dX4_bring_3 (lv_at hl 5 rfl) ?_
      refine lv_iload hx hb dX4_bring_5 (lv_at hl 4 rfl) ?_
      refine lv_icmp_ge (tgt := 28) hx hb dX4_bring_7 (by decide) (fun c_7 => ?_) (fun c_7 => ?_)
      · have c_7 := (nI_leI (by omega : len < 2 ^ 31) (by omega : i < 2 ^ 31)).mp c_7
        subst hQe
        have hP9 := hP.sub (ws' := [(f0, .inl (kf0, N0, .inl ff)), (gx0, .inl (kg0, N1, .inl gv))]) [0, 1] rfl
        have hD9 := hD.sub (ws' := [(f0, .inl (kf0, N0, .inl ff)), (gx0, .inl (kg0, N1, .inl gv))]) [0, 1] (by decide) rfl
        have hK9 := hK.sub (tys' := [(kf0, .int), (kg0, .int)]) [0, 1] rfl
        subst hAe
        exact W.vret hx hb hr (fun t ht hW => ⟨⟨(), rfl, trivial, gv, (cp_end (by assumption) (by omega)), by rw [ht]; exact hP9, va_K.moved hW.alike hK9, hD9⟩, hS.F ht⟩) hS.2.2 dX4_bring_28
      · have c_7 := (not_congr (nI_leI (by omega : len < 2 ^ 31) (by omega : i < 2 ^ 31))).mp c_7
        refine lv_aload_n hx hb dX4_bring_10 rfl (lv_at hl 2 rfl) ?_
        refine lv_iload_n hx hb dX4_bring_11 rfl (lv_at hl 3 rfl) ?_
        refine lv_iload hx hb dX4_bring_12 (lv_at hl 5 rfl) ?_
        refine lv_iadd hx hb dX4_bring_14 ?_
        refine tp_as (nI_add dp i) ?_
        refine lv_aload_n hx hb dX4_bring_15 rfl (lv_at hl 0 rfl) ?_
        refine lv_iload_n hx hb dX4_bring_16 rfl (lv_at hl 1 rfl) ?_
        refine lv_iload hx hb dX4_bring_17 (lv_at hl 5 rfl) ?_
        refine lv_iadd hx hb dX4_bring_19 ?_
        refine tp_as (nI_add sp i) ?_
        refine va_iald hx hb hK hP 0 0 rfl rfl (vp_in_nI (show sp + i < N0 by omega) (by omega)) dX4_bring_20 ?_
        refine lv_topi (fun y_1 ey_1 => ?_)
        refine va_iast hx hb hK hP hD hS 1 1 rfl rfl (vp_in_nI (show dp + i < N1 by omega) (by omega)) dX4_bring_21 (fun H locs hP hD hS => ?_)
        have hP : va_P (dC, dI) vwCl [(f0, .inl (kf0, N0, .inl ff)), (gx0, .inl (kg0, N1, .inl (upd gv (nI (dp + i)).toNatClampNeg (y_1))))] H := hP
        have hD : va_D A [(f0, .inl (kf0, N0, .inl ff)), (gx0, .inl (kg0, N1, .inl (upd gv (nI (dp + i)).toNatClampNeg (y_1))))] := hD
        generalize ef_2 : upd gv (nI (dp + i)).toNatClampNeg (y_1) = f_2 at hP hD
        refine lv_iinc (v := nI (i + 1)) (lv' := [(5, .int (nI (i + 1))), (0, .ref f0), (1, .int (nI sp)), (2, .ref gx0), (3, .int (nI dp)), (4, .int (nI len))]) hx hb dX4_bring_22 hl (k := 5) rfl (inc_n i 1) (by decide) rfl (fun ls hl => ?_)
        refine lv_goto (tgt := 3) hx hb dX4_bring_25 (by decide) ?_
        exact ih3 (i + 1) f_2 _ _ _ (by first | assumption | omega) (cpy_step (by assumption) (by assumption) (by assumption) (by omega) (by omega)) (by omega) hP hD hS (lv_sub hl [1, 2, 3, 4, 5, 0] rfl)
  exact L3 (len - 0 + 1) 0 gg _ _ _ (by first | assumption | omega) cpy_0 (Nat.lt_succ_self _) hP hD hS (lv_sub hl [1, 2, 3, 4, 5, 0] rfl)
set_option maxHeartbeats 4000000 in
set_option maxRecDepth 100000 in
theorem c_X4_bring_s (l : Launch) (dC : Nat → ClassId) (dI : Nat → Nat → Nat) (f0 : Nat) (kf0 : ClassId) (sz : Nat) (N0 : Nat) (ff : Nat → Int32) (sp : Nat) (dp : Nat) (len : Nat) (g0 : dp ≤ sp) (g1 : sp + len ≤ N0) (g2 : N0 < 2 ^ 30) : Met l yX4_bring wsX4_bring ({ frames := 0, cells := 0, slots := 0, locals := 0 }) (va_Pc [.ref f0, .int (nI sp), .ref f0, .int (nI dp), .int (nI len)] (fun U => U.heap.size = sz ∧ va_P (dC, dI) vwCl [(f0, .inl (kf0, N0, .inl ff))] U.heap ∧ va_K (dC, dI) vwCl [(kf0, .int)] U ∧ va_D (fun _ => True) [(f0, .inl (kf0, N0, .inl ff))])) (va_Qv (fun _ : Unit => True) (fun _ t => ∃ (ff' : Nat → Int32), ff' = va_cpy ff ff sp dp len ∧ va_P (dC, dI) vwCl [(f0, .inl (kf0, N0, .inl ff'))] t.heap ∧ va_K (dC, dI) vwCl [(kf0, .int)] t ∧ va_D (va_A [(f0, .inl (kf0, N0, .inl ff))] sz) [(f0, .inl (kf0, N0, .inl ff'))]) (va_A [(f0, .inl (kf0, N0, .inl ff))] sz)) 0 0 (va_A [(f0, .inl (kf0, N0, .inl ff))] sz) := by
  refine Met.ofW (cc := cX4_bring) (maxL := 6) (ret := none) (by decide) rfl ?_
  intro p e s m args below meth c s₁ B hml hv
  obtain ⟨rfl, hsz, hP, hK, hD0⟩ := hv
  have hx := B.exec
  have hb := B.bytes
  have hr := B.returns
  have hts := atoms_spec (ws := wsX4_bring) B.pre
  have hown : s.vm.findClass RX4 = some m.cls := findClass_of_methodNamed B.named
  have hlocks := B.notSynchronized
  subst hsz
  have hD := hD0.self (sz := s.heap.size)
  generalize hAe : va_A [(f0, .inl (kf0, N0, .inl ff))] s.heap.size = A at hD ⊢
  have hA : ∀ q : Nat, s.heap.size ≤ q → A q := fun q h => by rw [← hAe]; exact Or.inr h
  have hS : va_S A s.heap s.heap [] := va_S.rf
  have hl := lv_entry ([.ref f0, .int (nI sp), .ref f0, .int (nI dp), .int (nI len)]) (n := 6) (Nat.le_of_ble_eq_true rfl)
  rw [lg_entry_eq]
  generalize (lg_sl ([.ref f0, .int (nI sp), .ref f0, .int (nI dp), .int (nI len)]) ++ List.replicate (6 - (lg_sl ([.ref f0, .int (nI sp), .ref f0, .int (nI dp), .int (nI len)])).length) Slot.unset).toArray = ls at hl ⊢
  generalize hQe : MQ below _ _ s 0 0 _ = Q
  generalize ([.ref f0, .int (nI sp), .ref f0, .int (nI dp), .int (nI len)] : List Value).toArray = args at hts hQe ⊢
  have hl : lv_has ls 6 [(0, .ref f0), (1, .int (nI sp)), (2, .ref f0), (3, .int (nI dp)), (4, .int (nI len))] := hl
  refine lv_iconst (v := nI 0) hx hb dX4_bring_0 (by decide) ?_
  refine lv_istore (lv' := [(5, .int (nI 0)), (0, .ref f0), (1, .int (nI sp)), (2, .ref f0), (3, .int (nI dp)), (4, .int (nI len))]) hx hb dX4_bring_1 hl (by decide) rfl (fun ls hl => ?_)
  have L3 : ∀ (n : Nat) (i : Nat) (gv : Nat → Int32) (H : Heap) (locs : List Loc) (ls : Array Slot), i ≤ len → gv = va_cpy ff ff sp dp i → len - i < n → va_P (dC, dI) vwCl [(f0, .inl (kf0, N0, .inl gv))] H → va_D A [(f0, .inl (kf0, N0, .inl gv))] → va_S A s.heap H locs → lv_has ls 6 [(0, .ref f0), (1, .int (nI sp)), (2, .ref f0), (3, .int (nI dp)), (4, .int (nI len)), (5, .int (nI i))] → W p l e (headSpec wsX4_bring { frames := 0, cells := 0, slots := 0, locals := 0 }).room s m args below meth c H locs 0 0 Q (F0 m 3 ls []) := by
    intro n
    induction n with
    | zero => intro i gv H locs ls hL3_0 hL3_1 hn; exact absurd hn (Nat.not_lt_zero _)
    | succ n ih3 =>
      intro i gv H locs ls hL3_0 hL3_1 hn hP hD hS hl
      refine lv_iload hx hb dX4_bring_3 (lv_at hl 5 rfl) ?_
      refine lv_iload hx hb dX4_bring_5 (lv_at hl 4 rfl) ?_
      refine lv_icmp_ge (tgt := 28) hx hb dX4_bring_7 (by decide) (fun c_7 => ?_) (fun c_7 => ?_)
      · have c_7 := (nI_leI (by omega : len < 2 ^ 31) (by omega : i < 2 ^ 31)).mp c_7
        subst hQe
        have hP9 := hP.sub (ws' := [(f0, .inl (kf0, N0, .inl gv))]) [0] rfl
        have hD9 := hD.sub (ws' := [(f0, .inl (kf0, N0, .inl gv))]) [0] (by decide) rfl
        have hK9 := hK.sub (tys' := [(kf0, .int)]) [0] rfl
        subst hAe
        exact W.vret hx hb hr (fun t ht hW => ⟨⟨(), rfl, trivial, gv, (cp_end (by assumption) (by omega)), by rw [ht]; exact hP9, va_K.moved hW.alike hK9, hD9⟩, hS.F ht⟩) hS.2.2 dX4_bring_28
      · have c_7 := (not_congr (nI_leI (by omega : len < 2 ^ 31) (by omega : i < 2 ^ 31))).mp c_7
        refine lv_aload_n hx hb dX4_bring_10 rfl (lv_at hl 2 rfl) ?_
        refine lv_iload_n hx hb dX4_bring_11 rfl (lv_at hl 3 rfl) ?_
        refine lv_iload hx hb dX4_bring_12 (lv_at hl 5 rfl) ?_
        refine lv_iadd hx hb dX4_bring_14 ?_
        refine tp_as (nI_add dp i) ?_
        refine lv_aload_n hx hb dX4_bring_15 rfl (lv_at hl 0 rfl) ?_
        refine lv_iload_n hx hb dX4_bring_16 rfl (lv_at hl 1 rfl) ?_
        refine lv_iload hx hb dX4_bring_17 (lv_at hl 5 rfl) ?_
        refine lv_iadd hx hb dX4_bring_19 ?_
        refine tp_as (nI_add sp i) ?_
        refine va_iald hx hb hK hP 0 0 rfl rfl (vp_in_nI (show sp + i < N0 by omega) (by omega)) dX4_bring_20 ?_
        refine lv_topi (fun y_1 ey_1 => ?_)
        refine va_iast hx hb hK hP hD hS 0 0 rfl rfl (vp_in_nI (show dp + i < N0 by omega) (by omega)) dX4_bring_21 (fun H locs hP hD hS => ?_)
        have hP : va_P (dC, dI) vwCl [(f0, .inl (kf0, N0, .inl (upd gv (nI (dp + i)).toNatClampNeg (y_1))))] H := hP
        have hD : va_D A [(f0, .inl (kf0, N0, .inl (upd gv (nI (dp + i)).toNatClampNeg (y_1))))] := hD
        generalize ef_2 : upd gv (nI (dp + i)).toNatClampNeg (y_1) = f_2 at hP hD
        refine lv_iinc (v := nI (i + 1)) (lv' := [(5, .int (nI (i + 1))), (0, .ref f0), (1, .int (nI sp)), (2, .ref f0), (3, .int (nI dp)), (4, .int (nI len))]) hx hb dX4_bring_22 hl (k := 5) rfl (inc_n i 1) (by decide) rfl (fun ls hl => ?_)
        refine lv_goto (tgt := 3) hx hb dX4_bring_25 (by decide) ?_
        exact ih3 (i + 1) f_2 _ _ _ (by first | assumption | omega) (cpy_step_s (by assumption) (by assumption) (by assumption) (by omega) (by omega) (by omega)) (by omega) hP hD hS (lv_sub hl [1, 2, 3, 4, 5, 0] rfl)
  exact L3 (len - 0 + 1) 0 ff _ _ _ (by first | assumption | omega) cpy_0 (Nat.lt_succ_self _) hP hD hS (lv_sub hl [1, 2, 3, 4, 5, 0] rfl)
set_option maxHeartbeats 4000000 in
set_option maxRecDepth 100000 in
theorem c_X4_isOf (l : Launch) (dC : Nat → ClassId) (dI : Nat → Nat → Nat) (m0 m1 m2 m3 m4 m5 m6 m7 m8 : Nat) (km1 : ClassId) (bk : Nat) (sd : Int32) (cl : Int32) (pc : Int32) (op : Int32) (nw : Nat → Int32) (k : Nat) (h : Int32) (i0 : bk ≤ 40) (i1 : okN nw) (g0 : k < 12) : Met l yX4_isOf wsX4_isOf ({ frames := 1, cells := 0, slots := 0, locals := 22 }) (va_Pc [.ref m0, .int (nI k), .int h] (fun U => va_P (dC, dI) vwCl [(m0, .inr (4, [.ref m1, .ref m2, .int (nI bk), .ref m3, .ref m4, .ref m5, .ref m6, .int sd, .ref m7, .ref m8, .int cl, .int pc, .int op])), (m1, .inl (km1, 93, .inl nw))] U.heap ∧ va_K (dC, dI) vwCl [(km1, .int)] U)) (va_Qi (fun r (_ : Unit) => (r = 0 ∧ ¬ mp_is nw k h) ∨ (r = 1 ∧ mp_is nw k h)) (fun _ _ => True) (fun _ => False)) 0 0 (fun _ => False) := by
  refine Met.ofW (cc := cX4_isOf) (maxL := 3) (ret := (some .boolean)) (by decide) rfl ?_
  intro p e s m args below meth c s₁ B hml hv
  obtain ⟨rfl, hP, hK⟩ := hv
  have hx := B.exec
  have hb := B.bytes
  have hr := B.returns
  have hts := atoms_spec (ws := wsX4_isOf) B.pre
  have hown : s.vm.findClass RX4 = some m.cls := findClass_of_methodNamed B.named
  have hlocks := B.notSynchronized
  have inX4 : ∀ w ∈ wsX40, w ∈ wsX4_isOf := fun _ h => List.mem_cons_of_mem _ (List.mem_append_right _ h)
  have hS : va_S (fun _ => False) s.heap s.heap [] := va_S.rf
  have hl := lv_entry ([.ref m0, .int (nI k), .int h]) (n := 3) (Nat.le_of_ble_eq_true rfl)
  rw [lg_entry_eq]
  generalize (lg_sl ([.ref m0, .int (nI k), .int h]) ++ List.replicate (3 - (lg_sl ([.ref m0, .int (nI k), .int h])).length) Slot.unset).toArray = ls at hl ⊢
  generalize hQe : MQ below _ _ s 0 0 _ = Q
  generalize ([.ref m0, .int (nI k), .int h] : List Value).toArray = args at hts hQe ⊢
  have hl : lv_has ls 3 [(0, .ref m0), (1, .int (nI k)), (2, .int h)] := hl
  refine lv_iload_n hx hb dX4_isOf_0 rfl (lv_at hl 2 rfl) ?_
  refine lv_aload_n hx hb dX4_isOf_1 rfl (lv_at hl 0 rfl) ?_
  refine va_get (D := (dC, dI)) (ci := 4) (v := .ref m1) (C := RX4) (T := TX4) (N := 13) hx hb hts inX4 hown hK hP 0 rfl rfl 0 (by decide) (hts (.fieldLink RX4 7 "StoreSlopesModel" "now" "[I") (List.mem_of_getElem? (i := 1) rfl)) (fun _ h9 => h9) rfl dX4_isOf_2 ?_
  refine lv_bipush (v := nI 8) hx hb dX4_isOf_5 (by decide) ?_
  refine lv_iconst (v := nI 5) hx hb dX4_isOf_7 (by decide) ?_
  refine lv_iload_n hx hb dX4_isOf_8 rfl (lv_at hl 1 rfl) ?_
  refine lv_imul hx hb dX4_isOf_9 ?_
  refine tp_as (pk_mul 5 k) ?_
  refine lv_iadd hx hb dX4_isOf_10 ?_
  refine tp_as (nI_add 8 (5 * k)) ?_
  refine va_iald hx hb hK hP 1 0 rfl rfl (vp_in_nI (show 8 + (5 * k) < 93 by omega) (by omega)) dX4_isOf_11 ?_
  refine tp_as (cl_at (by omega)) ?_
  refine lv_aload_n hx hb dX4_isOf_12 rfl (lv_at hl 0 rfl) ?_
  refine va_get (D := (dC, dI)) (ci := 4) (v := .ref m1) (C := RX4) (T := TX4) (N := 13) hx hb hts inX4 hown hK hP 0 rfl rfl 0 (by decide) (hts (.fieldLink RX4 7 "StoreSlopesModel" "now" "[I") (List.mem_of_getElem? (i := 1) rfl)) (fun _ h9 => h9) rfl dX4_isOf_13 ?_
  refine lv_bipush (v := nI 8) hx hb dX4_isOf_16 (by decide) ?_
  refine lv_iconst (v := nI 5) hx hb dX4_isOf_18 (by decide) ?_
  refine lv_iload_n hx hb dX4_isOf_19 rfl (lv_at hl 1 rfl) ?_
  refine lv_imul hx hb dX4_isOf_20 ?_
  refine tp_as (pk_mul 5 k) ?_
  refine lv_iadd hx hb dX4_isOf_21 ?_
  refine tp_as (nI_add 8 (5 * k)) ?_
  refine lv_iconst (v := nI 1) hx hb dX4_isOf_22 (by decide) ?_
  refine lv_iadd hx hb dX4_isOf_23 ?_
  refine tp_as (nI_add (8 + (5 * k)) 1) ?_
  refine va_iald hx hb hK hP 1 0 rfl rfl (vp_in_nI (show (8 + (5 * k)) + 1 < 93 by omega) (by omega)) dX4_isOf_24 ?_
  refine tp_as (cl_at (by omega)) ?_
  refine va_calli (va_runS (As := [.int h, .int (nw (8 + (5 * k))), .int (nw ((8 + (5 * k)) + 1))]) (rest := []) ⟨hx, hb, hml, hown, hts⟩ (c_X4_in l dC dI   h (nw (8 + (5 * k))) (nw ((8 + (5 * k)) + 1))  ) (va_cwS 3 hts gX4_isOf_X4_in rfl rfl rfl (by decide +kernel) ⟨Nat.le_of_ble_eq_true rfl, Nat.le_of_ble_eq_true rfl⟩) ⟨fun a U g mk q => q, fun U hU hW => ⟨rfl, trivial⟩⟩ rfl rfl hl.1 rfl (lv_room (Nat.le_of_ble_eq_true rfl)) dX4_isOf_25 ⟨Nat.le_of_ble_eq_true rfl, Nat.le_of_ble_eq_true rfl⟩) hS (fun q _ h => h.elim) (fun q h => h.elim) (fun r_1 u9 t9 H1 locs ht hvm hw hB hz1 hk1 hS => ?_)
  refine W.widen (k := 0) (n := 0) (Nat.le_of_ble_eq_true rfl) (Nat.le_of_ble_eq_true rfl) ?_
  have hP := hP.kept (H1 := H1) (fun k q hk => hk1 q.1 (hP k q hk).lt (fun h => h))
  clear hz1 hk1 hB ht hvm t9
  generalize H1 = H at hP hS ⊢
  have hP : va_P (dC, dI) vwCl [(m0, .inr (4, [.ref m1, .ref m2, .int (nI bk), .ref m3, .ref m4, .ref m5, .ref m6, .int sd, .ref m7, .ref m8, .int cl, .int pc, .int op])), (m1, .inl (km1, 93, .inl nw))] H := hP
  have wr_1 := hw
  clear hw
  subst hQe
  exact W.zret (v := r_1) hx hb hr (bz wr_1) (fun t ht hW => ⟨⟨_, (), rfl, (is_of wr_1), trivial⟩, hS.F ht⟩) hS.2.2 dX4_isOf_28
set_option maxHeartbeats 4000000 in
set_option maxRecDepth 100000 in
theorem c_X4_lawPrice (l : Launch) (dC : Nat → ClassId) (dI : Nat → Nat → Nat) (m0 m1 m2 m3 m4 m5 m6 m7 m8 : Nat) (km1 : ClassId) (bk : Nat) (sd : Int32) (cl : Int32) (pc : Int32) (op : Int32) (nw : Nat → Int32) (k : Nat) (h : Int32) (bf : Int32) (i0 : bk ≤ 40) (i1 : okN nw) (g0 : k < 12) : Met l yX4_lawPrice wsX4_lawPrice ({ frames := 1, cells := 0, slots := 0, locals := 20 }) (va_Pc [.ref m0, .int (nI k), .int h, .int bf] (fun U => va_P (dC, dI) vwCl [(m0, .inr (4, [.ref m1, .ref m2, .int (nI bk), .ref m3, .ref m4, .ref m5, .ref m6, .int sd, .ref m7, .ref m8, .int cl, .int pc, .int op])), (m1, .inl (km1, 93, .inl nw))] U.heap ∧ va_K (dC, dI) vwCl [(km1, .int)] U)) (va_Qi (fun r (_ : Unit) => r = mp_law nw k h bf) (fun _ _ => True) (fun _ => False)) 0 0 (fun _ => False) := by
  refine Met.ofW (cc := cX4_lawPrice) (maxL := 7) (ret := (some .int)) (by decide) rfl ?_
  intro p e s m args below meth c s₁ B hml hv
  obtain ⟨rfl, hP, hK⟩ := hv
  have hx := B.exec
  have hb := B.bytes
  have hr := B.returns
  have hts := atoms_spec (ws := wsX4_lawPrice) B.pre
  have hown : s.vm.findClass RX4 = some m.cls := findClass_of_methodNamed B.named
  have hlocks := B.notSynchronized
  have inX4 : ∀ w ∈ wsX40, w ∈ wsX4_lawPrice := fun _ h => List.mem_cons_of_mem _ (List.mem_append_right _ h)
  have hS : va_S (fun _ => False) s.heap s.heap [] := va_S.rf
  have hl := lv_entry ([.ref m0, .int (nI k), .int h, .int bf]) (n := 7) (Nat.le_of_ble_eq_true rfl)
  rw [lg_entry_eq]
  generalize (lg_sl ([.ref m0, .int (nI k), .int h, .int bf]) ++ List.replicate (7 - (lg_sl ([.ref m0, .int (nI k), .int h, .int bf])).length) Slot.unset).toArray = ls at hl ⊢
  generalize hQe : MQ below _ _ s 0 0 _ = Q
  generalize ([.ref m0, .int (nI k), .int h, .int bf] : List Value).toArray = args at hts hQe ⊢
  have hl : lv_has ls 7 [(0, .ref m0), (1, .int (nI k)), (2, .int h), (3, .int bf)] := hl
  refine lv_bipush (v := nI 8) hx hb dX4_lawPrice_0 (by decide) ?_
  refine lv_iconst (v := nI 5) hx hb dX4_lawPrice_2 (by decide) ?_
  refine lv_iload_n hx hb dX4_lawPrice_3 rfl (lv_at hl 1 rfl) ?_
  refine lv_imul hx hb dX4_lawPrice_4 ?_
  refine tp_as (pk_mul 5 k) ?_
  refine lv_iadd hx hb dX4_lawPrice_5 ?_
  refine tp_as (nI_add 8 (5 * k)) ?_
  refine lv_istore (lv' := [(4, .int (nI (8 + (5 * k)))), (0, .ref m0), (1, .int (nI k)), (2, .int h), (3, .int bf)]) hx hb dX4_lawPrice_6 hl (by decide) rfl (fun ls hl => ?_)
  refine lv_aload_n hx hb dX4_lawPrice_8 rfl (lv_at hl 1 rfl) ?_
  refine va_get (D := (dC, dI)) (ci := 4) (v := .ref m1) (C := RX4) (T := TX4) (N := 13) hx hb hts inX4 hown hK hP 0 rfl rfl 0 (by decide) (hts (.fieldLink RX4 7 "StoreSlopesModel" "now" "[I") (List.mem_of_getElem? (i := 1) rfl)) (fun _ h9 => h9) rfl dX4_lawPrice_9 ?_
  refine lv_iload hx hb dX4_lawPrice_12 (lv_at hl 0 rfl) ?_
  refine lv_iconst (v := nI 3) hx hb dX4_lawPrice_14 (by decide) ?_
  refine lv_iadd hx hb dX4_lawPrice_15 ?_
  refine tp_as (nI_add (8 + (5 * k)) 3) ?_
  refine va_iald hx hb hK hP 1 0 rfl rfl (vp_in_nI (show (8 + (5 * k)) + 3 < 93 by omega) (by omega)) dX4_lawPrice_16 ?_
  refine tp_as (cl_at (by omega)) ?_
  refine lv_istore (lv' := [(5, .int (nw ((8 + (5 * k)) + 3))), (4, .int (nI (8 + (5 * k)))), (0, .ref m0), (1, .int (nI k)), (2, .int h), (3, .int bf)]) hx hb dX4_lawPrice_17 hl (by decide) rfl (fun ls hl => ?_)
  refine lv_aload_n hx hb dX4_lawPrice_19 rfl (lv_at hl 2 rfl) ?_
  refine va_get (D := (dC, dI)) (ci := 4) (v := .ref m1) (C := RX4) (T := TX4) (N := 13) hx hb hts inX4 hown hK hP 0 rfl rfl 0 (by decide) (hts (.fieldLink RX4 7 "StoreSlopesModel" "now" "[I") (List.mem_of_getElem? (i := 1) rfl)) (fun _ h9 => h9) rfl dX4_lawPrice_20 ?_
  refine lv_iload hx hb dX4_lawPrice_23 (lv_at hl 1 rfl) ?_
  refine lv_iconst (v := nI 4) hx hb dX4_lawPrice_25 (by decide) ?_
  refine lv_iadd hx hb dX4_lawPrice_26 ?_
  refine tp_as (nI_add (8 + (5 * k)) 4) ?_
  refine va_iald hx hb hK hP 1 0 rfl rfl (vp_in_nI (show (8 + (5 * k)) + 4 < 93 by omega) (by omega)) dX4_lawPrice_27 ?_
  refine tp_as (cl_at (by omega)) ?_
  refine lv_istore (lv' := [(6, .int (nw ((8 + (5 * k)) + 4))), (5, .int (nw ((8 + (5 * k)) + 3))), (4, .int (nI (8 + (5 * k)))), (0, .ref m0), (1, .int (nI k)), (2, .int h), (3, .int bf)]) hx hb dX4_lawPrice_28 hl (by decide) rfl (fun ls hl => ?_)
  refine lv_aload_n hx hb dX4_lawPrice_30 rfl (lv_at hl 3 rfl) ?_
  refine va_get (D := (dC, dI)) (ci := 4) (v := .ref m1) (C := RX4) (T := TX4) (N := 13) hx hb hts inX4 hown hK hP 0 rfl rfl 0 (by decide) (hts (.fieldLink RX4 7 "StoreSlopesModel" "now" "[I") (List.mem_of_getElem? (i := 1) rfl)) (fun _ h9 => h9) rfl dX4_lawPrice_31 ?_
  refine lv_iload hx hb dX4_lawPrice_34 (lv_at hl 2 rfl) ?_
  refine lv_iconst (v := nI 2) hx hb dX4_lawPrice_36 (by decide) ?_
  refine lv_iadd hx hb dX4_lawPrice_37 ?_
  refine tp_as (nI_add (8 + (5 * k)) 2) ?_
  refine va_iald hx hb hK hP 1 0 rfl rfl (vp_in_nI (show (8 + (5 * k)) + 2 < 93 by omega) (by omega)) dX4_lawPrice_38 ?_
  refine tp_as (cl_at (by omega)) ?_
  rcases tb_cases (nw ((8 + (5 * k)) + 2)) (n := 3) (by decide) with ⟨k_39, hk_39, ek_39⟩ | c_39
  · rcases (show k_39 = 0 ∨ k_39 = 1 ∨ k_39 = 2 ∨ k_39 = 3 by omega) with rfl | rfl | rfl | rfl
    · refine lv_tableIn (off := (29)) (tgt := 68) hx hb dX4_lawPrice_39 (by rw [ek_39]; decide) (by rw [ek_39]; decide) (by rw [ek_39]; decide) (by decide) ?_
      refine lv_iload hx hb dX4_lawPrice_68 (lv_at hl 1 rfl) ?_
      subst hQe
      exact W.iret (v := (nw ((8 + (5 * k)) + 3))) hx hb hr (fun t ht hW => ⟨⟨_, (), rfl, (by first | (rw [mp_law, if_pos ek_39]; done) | (rw [mp_law, if_neg (by rw [ek_39]; decide), if_pos ek_39]; done) | (rw [mp_law, if_neg (by rw [ek_39]; decide), if_neg (by rw [ek_39]; decide), if_pos ek_39, if_pos c_98]; done) | (rw [mp_law, if_neg (by rw [ek_39]; decide), if_neg (by rw [ek_39]; decide), if_pos ek_39, if_neg c_98]; done) | (rw [mp_law, if_neg (by rw [ek_39]; decide), if_neg (by rw [ek_39]; decide), if_neg (by rw [ek_39]; decide), if_pos ek_39]; done) | (rw [mp_law, if_neg (fun q => by rw [q] at c_39; revert c_39; decide), if_neg (fun q => by rw [q] at c_39; revert c_39; decide), if_neg (fun q => by rw [q] at c_39; revert c_39; decide), if_neg (fun q => by rw [q] at c_39; revert c_39; decide), if_neg (fun q => absurd q (by rw [Int32.not_lt]; exact c_143))]; done) | (rw [mp_law, if_neg (fun q => by rw [q] at c_39; revert c_39; decide), if_neg (fun q => by rw [q] at c_39; revert c_39; decide), if_neg (fun q => by rw [q] at c_39; revert c_39; decide), if_neg (fun q => by rw [q] at c_39; revert c_39; decide), if_pos (Int32.not_le.mp c_143)]; done)), trivial⟩, hS.F ht⟩) hS.2.2 dX4_lawPrice_70
    · refine lv_tableIn (off := (32)) (tgt := 71) hx hb dX4_lawPrice_39 (by rw [ek_39]; decide) (by rw [ek_39]; decide) (by rw [ek_39]; decide) (by decide) ?_
      refine lv_iload hx hb dX4_lawPrice_71 (lv_at hl 1 rfl) ?_
      refine lv_iload hx hb dX4_lawPrice_73 (lv_at hl 0 rfl) ?_
      refine lv_iload_n hx hb dX4_lawPrice_75 rfl (lv_at hl 5 rfl) ?_
      refine lv_aload_n hx hb dX4_lawPrice_76 rfl (lv_at hl 3 rfl) ?_
      refine va_get (D := (dC, dI)) (ci := 4) (v := .ref m1) (C := RX4) (T := TX4) (N := 13) hx hb hts inX4 hown hK hP 0 rfl rfl 0 (by decide) (hts (.fieldLink RX4 7 "StoreSlopesModel" "now" "[I") (List.mem_of_getElem? (i := 1) rfl)) (fun _ h9 => h9) rfl dX4_lawPrice_77 ?_
      refine lv_iload hx hb dX4_lawPrice_80 (lv_at hl 2 rfl) ?_
      refine va_iald hx hb hK hP 1 0 rfl rfl (vp_in_nI (show 8 + (5 * k) < 93 by omega) (by omega)) dX4_lawPrice_82 ?_
      refine tp_as (cl_at (by omega)) ?_
      refine lv_isub hx hb dX4_lawPrice_83 ?_
      refine lv_imul hx hb dX4_lawPrice_84 ?_
      refine lv_iadd hx hb dX4_lawPrice_85 ?_
      subst hQe
      exact W.iret (v := ((nw ((8 + (5 * k)) + 3)) + ((nw ((8 + (5 * k)) + 4)) * (h - (nw (8 + (5 * k))))))) hx hb hr (fun t ht hW => ⟨⟨_, (), rfl, (by first | (rw [mp_law, if_pos ek_39]; done) | (rw [mp_law, if_neg (by rw [ek_39]; decide), if_pos ek_39]; done) | (rw [mp_law, if_neg (by rw [ek_39]; decide), if_neg (by rw [ek_39]; decide), if_pos ek_39, if_pos c_98]; done) | (rw [mp_law, if_neg (by rw [ek_39]; decide), if_neg (by rw [ek_39]; decide), if_pos ek_39, if_neg c_98]; done) | (rw [mp_law, if_neg (by rw [ek_39]; decide), if_neg (by rw [ek_39]; decide), if_neg (by rw [ek_39]; decide), if_pos ek_39]; done) | (rw [mp_law, if_neg (fun q => by rw [q] at c_39; revert c_39; decide), if_neg (fun q => by rw [q] at c_39; revert c_39; decide), if_neg (fun q => by rw [q] at c_39; revert c_39; decide), if_neg (fun q => by rw [q] at c_39; revert c_39; decide), if_neg (fun q => absurd q (by rw [Int32.not_lt]; exact c_143))]; done) | (rw [mp_law, if_neg (fun q => by rw [q] at c_39; revert c_39; decide), if_neg (fun q => by rw [q] at c_39; revert c_39; decide), if_neg (fun q => by rw [q] at c_39; revert c_39; decide), if_neg (fun q => by rw [q] at c_39; revert c_39; decide), if_pos (Int32.not_le.mp c_143)]; done)), trivial⟩, hS.F ht⟩) hS.2.2 dX4_lawPrice_86
    · refine lv_tableIn (off := (48)) (tgt := 87) hx hb dX4_lawPrice_39 (by rw [ek_39]; decide) (by rw [ek_39]; decide) (by rw [ek_39]; decide) (by decide) ?_
      refine lv_iload_n hx hb dX4_lawPrice_87 rfl (lv_at hl 5 rfl) ?_
      refine lv_aload_n hx hb dX4_lawPrice_88 rfl (lv_at hl 3 rfl) ?_
      refine va_get (D := (dC, dI)) (ci := 4) (v := .ref m1) (C := RX4) (T := TX4) (N := 13) hx hb hts inX4 hown hK hP 0 rfl rfl 0 (by decide) (hts (.fieldLink RX4 7 "StoreSlopesModel" "now" "[I") (List.mem_of_getElem? (i := 1) rfl)) (fun _ h9 => h9) rfl dX4_lawPrice_89 ?_
      refine lv_iload hx hb dX4_lawPrice_92 (lv_at hl 2 rfl) ?_
      refine va_iald hx hb hK hP 1 0 rfl rfl (vp_in_nI (show 8 + (5 * k) < 93 by omega) (by omega)) dX4_lawPrice_94 ?_
      refine tp_as (cl_at (by omega)) ?_
      refine lv_isub hx hb dX4_lawPrice_95 ?_
      refine lv_iconst (v := nI 2) hx hb dX4_lawPrice_96 (by decide) ?_
      refine lv_irem hx hb dX4_lawPrice_97 (by decide) ?_
      refine lv_if_ne (tgt := 106) hx hb dX4_lawPrice_98 (by decide) (fun c_98 => ?_) (fun c_98 => ?_)
      · refine lv_iload hx hb dX4_lawPrice_106 (lv_at hl 0 rfl) ?_
        subst hQe
        exact W.iret (v := (nw ((8 + (5 * k)) + 4))) hx hb hr (fun t ht hW => ⟨⟨_, (), rfl, (by first | (rw [mp_law, if_pos ek_39]; done) | (rw [mp_law, if_neg (by rw [ek_39]; decide), if_pos ek_39]; done) | (rw [mp_law, if_neg (by rw [ek_39]; decide), if_neg (by rw [ek_39]; decide), if_pos ek_39, if_pos c_98]; done) | (rw [mp_law, if_neg (by rw [ek_39]; decide), if_neg (by rw [ek_39]; decide), if_pos ek_39, if_neg c_98]; done) | (rw [mp_law, if_neg (by rw [ek_39]; decide), if_neg (by rw [ek_39]; decide), if_neg (by rw [ek_39]; decide), if_pos ek_39]; done) | (rw [mp_law, if_neg (fun q => by rw [q] at c_39; revert c_39; decide), if_neg (fun q => by rw [q] at c_39; revert c_39; decide), if_neg (fun q => by rw [q] at c_39; revert c_39; decide), if_neg (fun q => by rw [q] at c_39; revert c_39; decide), if_neg (fun q => absurd q (by rw [Int32.not_lt]; exact c_143))]; done) | (rw [mp_law, if_neg (fun q => by rw [q] at c_39; revert c_39; decide), if_neg (fun q => by rw [q] at c_39; revert c_39; decide), if_neg (fun q => by rw [q] at c_39; revert c_39; decide), if_neg (fun q => by rw [q] at c_39; revert c_39; decide), if_pos (Int32.not_le.mp c_143)]; done)), trivial⟩, hS.F ht⟩) hS.2.2 dX4_lawPrice_108
      · refine lv_iload hx hb dX4_lawPrice_101 (lv_at hl 1 rfl) ?_
        refine lv_goto (tgt := 108) hx hb dX4_lawPrice_103 (by decide) ?_
        subst hQe
        exact W.iret (v := (nw ((8 + (5 * k)) + 3))) hx hb hr (fun t ht hW => ⟨⟨_, (), rfl, (by first | (rw [mp_law, if_pos ek_39]; done) | (rw [mp_law, if_neg (by rw [ek_39]; decide), if_pos ek_39]; done) | (rw [mp_law, if_neg (by rw [ek_39]; decide), if_neg (by rw [ek_39]; decide), if_pos ek_39, if_pos c_98]; done) | (rw [mp_law, if_neg (by rw [ek_39]; decide), if_neg (by rw [ek_39]; decide), if_pos ek_39, if_neg c_98]; done) | (rw [mp_law, if_neg (by rw [ek_39]; decide), if_neg (by rw [ek_39]; decide), if_neg (by rw [ek_39]; decide), if_pos ek_39]; done) | (rw [mp_law, if_neg (fun q => by rw [q] at c_39; revert c_39; decide), if_neg (fun q => by rw [q] at c_39; revert c_39; decide), if_neg (fun q => by rw [q] at c_39; revert c_39; decide), if_neg (fun q => by rw [q] at c_39; revert c_39; decide), if_neg (fun q => absurd q (by rw [Int32.not_lt]; exact c_143))]; done) | (rw [mp_law, if_neg (fun q => by rw [q] at c_39; revert c_39; decide), if_neg (fun q => by rw [q] at c_39; revert c_39; decide), if_neg (fun q => by rw [q] at c_39; revert c_39; decide), if_neg (fun q => by rw [q] at c_39; revert c_39; decide), if_pos (Int32.not_le.mp c_143)]; done)), trivial⟩, hS.F ht⟩) hS.2.2 dX4_lawPrice_108
    · refine lv_tableIn (off := (70)) (tgt := 109) hx hb dX4_lawPrice_39 (by rw [ek_39]; decide) (by rw [ek_39]; decide) (by rw [ek_39]; decide) (by decide) ?_
      refine lv_iload hx hb dX4_lawPrice_109 (lv_at hl 1 rfl) ?_
      refine lv_iload hx hb dX4_lawPrice_111 (lv_at hl 0 rfl) ?_
      refine lv_iconst (v := nI 2) hx hb dX4_lawPrice_113 (by decide) ?_
      refine lv_iload_n hx hb dX4_lawPrice_114 rfl (lv_at hl 5 rfl) ?_
      refine lv_imul hx hb dX4_lawPrice_115 ?_
      refine lv_aload_n hx hb dX4_lawPrice_116 rfl (lv_at hl 3 rfl) ?_
      refine va_get (D := (dC, dI)) (ci := 4) (v := .ref m1) (C := RX4) (T := TX4) (N := 13) hx hb hts inX4 hown hK hP 0 rfl rfl 0 (by decide) (hts (.fieldLink RX4 7 "StoreSlopesModel" "now" "[I") (List.mem_of_getElem? (i := 1) rfl)) (fun _ h9 => h9) rfl dX4_lawPrice_117 ?_
      refine lv_iload hx hb dX4_lawPrice_120 (lv_at hl 2 rfl) ?_
      refine va_iald hx hb hK hP 1 0 rfl rfl (vp_in_nI (show 8 + (5 * k) < 93 by omega) (by omega)) dX4_lawPrice_122 ?_
      refine tp_as (cl_at (by omega)) ?_
      refine lv_isub hx hb dX4_lawPrice_123 ?_
      refine lv_aload_n hx hb dX4_lawPrice_124 rfl (lv_at hl 3 rfl) ?_
      refine va_get (D := (dC, dI)) (ci := 4) (v := .ref m1) (C := RX4) (T := TX4) (N := 13) hx hb hts inX4 hown hK hP 0 rfl rfl 0 (by decide) (hts (.fieldLink RX4 7 "StoreSlopesModel" "now" "[I") (List.mem_of_getElem? (i := 1) rfl)) (fun _ h9 => h9) rfl dX4_lawPrice_125 ?_
      refine lv_iload hx hb dX4_lawPrice_128 (lv_at hl 2 rfl) ?_
      refine lv_iconst (v := nI 1) hx hb dX4_lawPrice_130 (by decide) ?_
      refine lv_iadd hx hb dX4_lawPrice_131 ?_
      refine tp_as (nI_add (8 + (5 * k)) 1) ?_
      refine va_iald hx hb hK hP 1 0 rfl rfl (vp_in_nI (show (8 + (5 * k)) + 1 < 93 by omega) (by omega)) dX4_lawPrice_132 ?_
      refine tp_as (cl_at (by omega)) ?_
      refine lv_isub hx hb dX4_lawPrice_133 ?_
      refine va_calli (va_runS (As := [.int ((((nI 2) * h) - (nw (8 + (5 * k)))) - (nw ((8 + (5 * k)) + 1)))]) (rest := [.int (nw ((8 + (5 * k)) + 4)), .int (nw ((8 + (5 * k)) + 3))]) ⟨hx, hb, hml, hown, hts⟩ (c_X4_away l dC dI   ((((nI 2) * h) - (nw (8 + (5 * k)))) - (nw ((8 + (5 * k)) + 1)))  ) (va_cwS 1 hts gX4_lawPrice_X4_away rfl rfl rfl (by decide +kernel) ⟨Nat.le_of_ble_eq_true rfl, Nat.le_of_ble_eq_true rfl⟩) ⟨fun a U g mk q => q, fun U hU hW => ⟨rfl, trivial⟩⟩ rfl rfl hl.1 rfl (lv_room (Nat.le_of_ble_eq_true rfl)) dX4_lawPrice_134 ⟨Nat.le_of_ble_eq_true rfl, Nat.le_of_ble_eq_true rfl⟩) hS (fun q _ h => h.elim) (fun q h => h.elim) (fun r_1 u9 t9 H1 locs ht hvm hw hB hz1 hk1 hS => ?_)
      refine W.widen (k := 0) (n := 0) (Nat.le_of_ble_eq_true rfl) (Nat.le_of_ble_eq_true rfl) ?_
      have hP := hP.kept (H1 := H1) (fun k q hk => hk1 q.1 (hP k q hk).lt (fun h => h))
      clear hz1 hk1 hB ht hvm t9
      generalize H1 = H at hP hS ⊢
      have hP : va_P (dC, dI) vwCl [(m0, .inr (4, [.ref m1, .ref m2, .int (nI bk), .ref m3, .ref m4, .ref m5, .ref m6, .int sd, .ref m7, .ref m8, .int cl, .int pc, .int op])), (m1, .inl (km1, 93, .inl nw))] H := hP
      subst hw
      refine lv_imul hx hb dX4_lawPrice_137 ?_
      refine lv_iadd hx hb dX4_lawPrice_138 ?_
      subst hQe
      exact W.iret (v := ((nw ((8 + (5 * k)) + 3)) + ((nw ((8 + (5 * k)) + 4)) * (mp_aw ((((nI 2) * h) - (nw (8 + (5 * k)))) - (nw ((8 + (5 * k)) + 1))))))) hx hb hr (fun t ht hW => ⟨⟨_, (), rfl, (by first | (rw [mp_law, if_pos ek_39]; done) | (rw [mp_law, if_neg (by rw [ek_39]; decide), if_pos ek_39]; done) | (rw [mp_law, if_neg (by rw [ek_39]; decide), if_neg (by rw [ek_39]; decide), if_pos ek_39, if_pos c_98]; done) | (rw [mp_law, if_neg (by rw [ek_39]; decide), if_neg (by rw [ek_39]; decide), if_pos ek_39, if_neg c_98]; done) | (rw [mp_law, if_neg (by rw [ek_39]; decide), if_neg (by rw [ek_39]; decide), if_neg (by rw [ek_39]; decide), if_pos ek_39]; done) | (rw [mp_law, if_neg (fun q => by rw [q] at c_39; revert c_39; decide), if_neg (fun q => by rw [q] at c_39; revert c_39; decide), if_neg (fun q => by rw [q] at c_39; revert c_39; decide), if_neg (fun q => by rw [q] at c_39; revert c_39; decide), if_neg (fun q => absurd q (by rw [Int32.not_lt]; exact c_143))]; done) | (rw [mp_law, if_neg (fun q => by rw [q] at c_39; revert c_39; decide), if_neg (fun q => by rw [q] at c_39; revert c_39; decide), if_neg (fun q => by rw [q] at c_39; revert c_39; decide), if_neg (fun q => by rw [q] at c_39; revert c_39; decide), if_pos (Int32.not_le.mp c_143)]; done)), trivial⟩, hS.F ht⟩) hS.2.2 dX4_lawPrice_139
  · refine lv_tableOut (tgt := 140) hx hb dX4_lawPrice_39 (by omega) (by decide) ?_
    refine lv_iload hx hb dX4_lawPrice_140 (lv_at hl 1 rfl) ?_
    refine lv_iload_n hx hb dX4_lawPrice_142 rfl (lv_at hl 6 rfl) ?_
    refine lv_icmp_ge (tgt := 151) hx hb dX4_lawPrice_143 (by decide) (fun c_143 => ?_) (fun c_143 => ?_)
    · refine lv_iload_n hx hb dX4_lawPrice_151 rfl (lv_at hl 6 rfl) ?_
      refine lv_iload hx hb dX4_lawPrice_152 (lv_at hl 0 rfl) ?_
      refine lv_iadd hx hb dX4_lawPrice_154 ?_
      subst hQe
      exact W.iret (v := (bf + (nw ((8 + (5 * k)) + 4)))) hx hb hr (fun t ht hW => ⟨⟨_, (), rfl, (by first | (rw [mp_law, if_pos ek_39]; done) | (rw [mp_law, if_neg (by rw [ek_39]; decide), if_pos ek_39]; done) | (rw [mp_law, if_neg (by rw [ek_39]; decide), if_neg (by rw [ek_39]; decide), if_pos ek_39, if_pos c_98]; done) | (rw [mp_law, if_neg (by rw [ek_39]; decide), if_neg (by rw [ek_39]; decide), if_pos ek_39, if_neg c_98]; done) | (rw [mp_law, if_neg (by rw [ek_39]; decide), if_neg (by rw [ek_39]; decide), if_neg (by rw [ek_39]; decide), if_pos ek_39]; done) | (rw [mp_law, if_neg (fun q => by rw [q] at c_39; revert c_39; decide), if_neg (fun q => by rw [q] at c_39; revert c_39; decide), if_neg (fun q => by rw [q] at c_39; revert c_39; decide), if_neg (fun q => by rw [q] at c_39; revert c_39; decide), if_neg (fun q => absurd q (by rw [Int32.not_lt]; exact c_143))]; done) | (rw [mp_law, if_neg (fun q => by rw [q] at c_39; revert c_39; decide), if_neg (fun q => by rw [q] at c_39; revert c_39; decide), if_neg (fun q => by rw [q] at c_39; revert c_39; decide), if_neg (fun q => by rw [q] at c_39; revert c_39; decide), if_pos (Int32.not_le.mp c_143)]; done)), trivial⟩, hS.F ht⟩) hS.2.2 dX4_lawPrice_155
    · refine lv_iload hx hb dX4_lawPrice_146 (lv_at hl 1 rfl) ?_
      refine lv_goto (tgt := 155) hx hb dX4_lawPrice_148 (by decide) ?_
      subst hQe
      exact W.iret (v := (nw ((8 + (5 * k)) + 3))) hx hb hr (fun t ht hW => ⟨⟨_, (), rfl, (by first | (rw [mp_law, if_pos ek_39]; done) | (rw [mp_law, if_neg (by rw [ek_39]; decide), if_pos ek_39]; done) | (rw [mp_law, if_neg (by rw [ek_39]; decide), if_neg (by rw [ek_39]; decide), if_pos ek_39, if_pos c_98]; done) | (rw [mp_law, if_neg (by rw [ek_39]; decide), if_neg (by rw [ek_39]; decide), if_pos ek_39, if_neg c_98]; done) | (rw [mp_law, if_neg (by rw [ek_39]; decide), if_neg (by rw [ek_39]; decide), if_neg (by rw [ek_39]; decide), if_pos ek_39]; done) | (rw [mp_law, if_neg (fun q => by rw [q] at c_39; revert c_39; decide), if_neg (fun q => by rw [q] at c_39; revert c_39; decide), if_neg (fun q => by rw [q] at c_39; revert c_39; decide), if_neg (fun q => by rw [q] at c_39; revert c_39; decide), if_neg (fun q => absurd q (by rw [Int32.not_lt]; exact c_143))]; done) | (rw [mp_law, if_neg (fun q => by rw [q] at c_39; revert c_39; decide), if_neg (fun q => by rw [q] at c_39; revert c_39; decide), if_neg (fun q => by rw [q] at c_39; revert c_39; decide), if_neg (fun q => by rw [q] at c_39; revert c_39; decide), if_pos (Int32.not_le.mp c_143)]; done)), trivial⟩, hS.F ht⟩) hS.2.2 dX4_lawPrice_155
set_option maxHeartbeats 4000000 in
set_option maxRecDepth 100000 in
theorem c_X4_toldPrice (l : Launch) (dC : Nat → ClassId) (dI : Nat → Nat → Nat) (m0 m1 m2 m3 m4 m5 m6 m7 m8 : Nat) (km1 : ClassId) (bk : Nat) (sd : Int32) (cl : Int32) (pc : Int32) (op : Int32) (nw : Nat → Int32) (h : Int32) (i0 : bk ≤ 40) (i1 : okN nw) : Met l yX4_toldPrice wsX4_toldPrice ({ frames := 2, cells := 0, slots := 0, locals := 46 }) (va_Pc [.ref m0, .int h] (fun U => va_P (dC, dI) vwCl [(m0, .inr (4, [.ref m1, .ref m2, .int (nI bk), .ref m3, .ref m4, .ref m5, .ref m6, .int sd, .ref m7, .ref m8, .int cl, .int pc, .int op])), (m1, .inl (km1, 93, .inl nw))] U.heap ∧ va_K (dC, dI) vwCl [(km1, .int)] U)) (va_Qi (fun r (_ : Unit) => r = mp_price nw h) (fun _ _ => True) (fun _ => False)) 0 0 (fun _ => False) := by
  refine Met.ofW (cc := cX4_toldPrice) (maxL := 4) (ret := (some .int)) (by decide) rfl ?_
  intro p e s m args below meth c s₁ B hml hv
  obtain ⟨rfl, hP, hK⟩ := hv
  have hx := B.exec
  have hb := B.bytes
  have hr := B.returns
  have hts := atoms_spec (ws := wsX4_toldPrice) B.pre
  have hown : s.vm.findClass RX4 = some m.cls := findClass_of_methodNamed B.named
  have hlocks := B.notSynchronized
  have inX4 : ∀ w ∈ wsX40, w ∈ wsX4_toldPrice := fun _ h => List.mem_cons_of_mem _ (List.mem_append_right _ h)
  have hS : va_S (fun _ => False) s.heap s.heap [] := va_S.rf
  have hl := lv_entry ([.ref m0, .int h]) (n := 4) (Nat.le_of_ble_eq_true rfl)
  rw [lg_entry_eq]
  generalize (lg_sl ([.ref m0, .int h]) ++ List.replicate (4 - (lg_sl ([.ref m0, .int h])).length) Slot.unset).toArray = ls at hl ⊢
  generalize hQe : MQ below _ _ s 0 0 _ = Q
  generalize ([.ref m0, .int h] : List Value).toArray = args at hts hQe ⊢
  have hl : lv_has ls 4 [(0, .ref m0), (1, .int h)] := hl
  obtain ⟨lc, hlc, elc⟩ := i1.2.2.2.2.1
  refine lv_iconst (v := nI 0) hx hb dX4_toldPrice_0 (by decide) ?_
  refine lv_istore_n (lv' := [(2, .int (nI 0)), (0, .ref m0), (1, .int h)]) hx hb dX4_toldPrice_1 rfl hl (by decide) rfl (fun ls hl => ?_)
  refine lv_iconst (v := nI 0) hx hb dX4_toldPrice_2 (by decide) ?_
  refine lv_istore_n (lv' := [(3, .int (nI 0)), (2, .int (nI 0)), (0, .ref m0), (1, .int h)]) hx hb dX4_toldPrice_3 rfl hl (by decide) rfl (fun ls hl => ?_)
  have L4 : ∀ (n : Nat) (i : Nat) (q : Int32) (H : Heap) (locs : List Loc) (ls : Array Slot), i ≤ lc → q = mp_told nw h i → lc - i < n → va_P (dC, dI) vwCl [(m0, .inr (4, [.ref m1, .ref m2, .int (nI bk), .ref m3, .ref m4, .ref m5, .ref m6, .int sd, .ref m7, .ref m8, .int cl, .int pc, .int op])), (m1, .inl (km1, 93, .inl nw))] H → va_S (fun _ => False) s.heap H locs → lv_has ls 4 [(0, .ref m0), (1, .int h), (2, .int q), (3, .int (nI i))] → W p l e (headSpec wsX4_toldPrice { frames := 2, cells := 0, slots := 0, locals := 46 }).room s m args below meth c H locs 0 0 Q (F0 m 4 ls []) := by
    intro n
    induction n with
    | zero => intro i q H locs ls hL4_0 hL4_1 hn; exact absurd hn (Nat.not_lt_zero _)
    | succ n ih4 =>
      intro i q H locs ls hL4_0 hL4_1 hn hP hS hl
      refine lv_iload_n hx hb dX4_toldPrice_4 rfl (lv_at hl 3 rfl) ?_
      refine lv_aload_n hx hb dX4_toldPrice_5 rfl (lv_at hl 0 rfl) ?_
      refine va_get (D := (dC, dI)) (ci := 4) (v := .ref m1) (C := RX4) (T := TX4) (N := 13) hx hb hts inX4 hown hK hP 0 rfl rfl 0 (by decide) (hts (.fieldLink RX4 7 "StoreSlopesModel" "now" "[I") (List.mem_of_getElem? (i := 1) rfl)) (fun _ h9 => h9) rfl dX4_toldPrice_6 ?_
      refine lv_bipush (v := nI 7) hx hb dX4_toldPrice_9 (by decide) ?_
      refine va_iald hx hb hK hP 1 0 rfl rfl (vp_in_nI (show 7 < 93 by omega) (by omega)) dX4_toldPrice_11 ?_
      refine tp_as (cl_as (by omega) elc) ?_
      refine lv_icmp_ge (tgt := 42) hx hb dX4_toldPrice_12 (by decide) (fun c_12 => ?_) (fun c_12 => ?_)
      · have c_12 := (nI_leI (by omega : lc < 2 ^ 31) (by omega : i < 2 ^ 31)).mp c_12
        refine lv_iload_n hx hb dX4_toldPrice_42 rfl (lv_at hl 2 rfl) ?_
        subst hQe
        exact W.iret (v := q) hx hb hr (fun t ht hW => ⟨⟨_, (), rfl, (by rw [mp_price, elc, nI_clamp (by omega), show lc = i by omega]; exact hL4_1), trivial⟩, hS.F ht⟩) hS.2.2 dX4_toldPrice_43
      · have c_12 := (not_congr (nI_leI (by omega : lc < 2 ^ 31) (by omega : i < 2 ^ 31))).mp c_12
        refine lv_aload_n hx hb dX4_toldPrice_15 rfl (lv_at hl 0 rfl) ?_
        refine lv_iload_n hx hb dX4_toldPrice_16 rfl (lv_at hl 3 rfl) ?_
        refine lv_iload_n hx hb dX4_toldPrice_17 rfl (lv_at hl 1 rfl) ?_
        have hPc := hP.sub (ws' := [(m0, .inr (4, [.ref m1, .ref m2, .int (nI bk), .ref m3, .ref m4, .ref m5, .ref m6, .int sd, .ref m7, .ref m8, .int cl, .int pc, .int op])), (m1, .inl (km1, 93, .inl nw))]) [0, 1] rfl
        have hKc := hK.sub (tys' := [(km1, .int)]) [0] rfl
        refine va_calli (va_runV (As := [.int (nI i), .int h]) (rest := []) ⟨hx, hb, hml, hown, hts⟩ (c_X4_isOf l dC dI m0 m1 m2 m3 m4 m5 m6 m7 m8 km1 bk sd cl pc op nw i h (by first | assumption | omega) (by first | assumption | omega) (by first | assumption | omega)) (cwV 2 hts gX4_toldPrice_X4_isOf rfl rfl rfl (by decide +kernel) ⟨Nat.le_of_ble_eq_true rfl, Nat.le_of_ble_eq_true rfl⟩) ⟨fun a U g mk q => by obtain ⟨q0, qP, qK⟩ := q; exact ⟨q0, qP, va_K.moved (u := U) (U := U.calling g mk a) (Vm.Alike.refl U.vm) qK⟩, va_recv hKc hPc (ci := 4) (q0 := 0) rfl rfl, fun U hU hW => ⟨rfl, by rw [hU]; exact hPc, va_K.moved hW.alike hKc⟩⟩ rfl rfl hl.1 rfl (lv_room (Nat.le_of_ble_eq_true rfl)) dX4_toldPrice_18 ⟨Nat.le_of_ble_eq_true rfl, Nat.le_of_ble_eq_true rfl⟩) hS (fun q _ h => h.elim) (fun q h => h.elim) (fun r_1 u9 t9 H1 locs ht hvm hw hB hz1 hk1 hS => ?_)
        refine W.widen (k := 0) (n := 0) (Nat.le_of_ble_eq_true rfl) (Nat.le_of_ble_eq_true rfl) ?_
        have hP := hP.kept (H1 := H1) (fun k q hk => hk1 q.1 (hP k q hk).lt (fun h => h))
        clear hz1 hk1 hB ht hvm t9
        generalize H1 = H at hP hS ⊢
        have hP : va_P (dC, dI) vwCl [(m0, .inr (4, [.ref m1, .ref m2, .int (nI bk), .ref m3, .ref m4, .ref m5, .ref m6, .int sd, .ref m7, .ref m8, .int cl, .int pc, .int op])), (m1, .inl (km1, 93, .inl nw))] H := hP
        have wr_1 := hw
        clear hw
        refine lv_if_eq (tgt := 34) hx hb dX4_toldPrice_21 (by decide) (fun c_21 => ?_) (fun c_21 => ?_)
        · have nc_21 := b_0 wr_1 c_21
          refine lv_iload_n hx hb dX4_toldPrice_34 rfl (lv_at hl 2 rfl) ?_
          refine lv_istore_n (lv' := [(2, .int q), (0, .ref m0), (1, .int h), (3, .int (nI i))]) hx hb dX4_toldPrice_35 rfl hl (by decide) rfl (fun ls hl => ?_)
          refine lv_iinc (v := nI (i + 1)) (lv' := [(3, .int (nI (i + 1))), (2, .int q), (0, .ref m0), (1, .int h)]) hx hb dX4_toldPrice_36 hl (k := 3) rfl (inc_n i 1) (by decide) rfl (fun ls hl => ?_)
          refine lv_goto (tgt := 4) hx hb dX4_toldPrice_39 (by decide) ?_
          exact ih4 (i + 1) q _ _ _ (by first | assumption | omega) (by first | (rw [mp_told, if_pos nc_21, ← hL4_1]; done) | (rw [mp_told, if_neg nc_21]; exact hL4_1)) (by omega) hP hS (lv_sub hl [2, 3, 1, 0] rfl)
        · have nc_21 := b_1 wr_1 c_21
          refine lv_aload_n hx hb dX4_toldPrice_24 rfl (lv_at hl 0 rfl) ?_
          refine lv_iload_n hx hb dX4_toldPrice_25 rfl (lv_at hl 3 rfl) ?_
          refine lv_iload_n hx hb dX4_toldPrice_26 rfl (lv_at hl 1 rfl) ?_
          refine lv_iload_n hx hb dX4_toldPrice_27 rfl (lv_at hl 2 rfl) ?_
          have hPc := hP.sub (ws' := [(m0, .inr (4, [.ref m1, .ref m2, .int (nI bk), .ref m3, .ref m4, .ref m5, .ref m6, .int sd, .ref m7, .ref m8, .int cl, .int pc, .int op])), (m1, .inl (km1, 93, .inl nw))]) [0, 1] rfl
          have hKc := hK.sub (tys' := [(km1, .int)]) [0] rfl
          refine va_calli (va_runV (As := [.int (nI i), .int h, .int q]) (rest := []) ⟨hx, hb, hml, hown, hts⟩ (c_X4_lawPrice l dC dI m0 m1 m2 m3 m4 m5 m6 m7 m8 km1 bk sd cl pc op nw i h q (by first | assumption | omega) (by first | assumption | omega) (by first | assumption | omega)) (cwV 3 hts gX4_toldPrice_X4_lawPrice rfl rfl rfl (by decide +kernel) ⟨Nat.le_of_ble_eq_true rfl, Nat.le_of_ble_eq_true rfl⟩) ⟨fun a U g mk q => by obtain ⟨q0, qP, qK⟩ := q; exact ⟨q0, qP, va_K.moved (u := U) (U := U.calling g mk a) (Vm.Alike.refl U.vm) qK⟩, va_recv hKc hPc (ci := 4) (q0 := 0) rfl rfl, fun U hU hW => ⟨rfl, by rw [hU]; exact hPc, va_K.moved hW.alike hKc⟩⟩ rfl rfl hl.1 rfl (lv_room (Nat.le_of_ble_eq_true rfl)) dX4_toldPrice_28 ⟨Nat.le_of_ble_eq_true rfl, Nat.le_of_ble_eq_true rfl⟩) hS (fun q _ h => h.elim) (fun q h => h.elim) (fun r_2 u9 t9 H1 locs ht hvm hw hB hz1 hk1 hS => ?_)
          refine W.widen (k := 0) (n := 0) (Nat.le_of_ble_eq_true rfl) (Nat.le_of_ble_eq_true rfl) ?_
          have hP := hP.kept (H1 := H1) (fun k q hk => hk1 q.1 (hP k q hk).lt (fun h => h))
          clear hz1 hk1 hB ht hvm t9
          generalize H1 = H at hP hS ⊢
          have hP : va_P (dC, dI) vwCl [(m0, .inr (4, [.ref m1, .ref m2, .int (nI bk), .ref m3, .ref m4, .ref m5, .ref m6, .int sd, .ref m7, .ref m8, .int cl, .int pc, .int op])), (m1, .inl (km1, 93, .inl nw))] H := hP
          subst hw
          refine lv_goto (tgt := 35) hx hb dX4_toldPrice_31 (by decide) ?_
          refine lv_istore_n (lv' := [(2, .int (mp_law nw i h q)), (0, .ref m0), (1, .int h), (3, .int (nI i))]) hx hb dX4_toldPrice_35 rfl hl (by decide) rfl (fun ls hl => ?_)
          refine lv_iinc (v := nI (i + 1)) (lv' := [(3, .int (nI (i + 1))), (2, .int (mp_law nw i h q)), (0, .ref m0), (1, .int h)]) hx hb dX4_toldPrice_36 hl (k := 3) rfl (inc_n i 1) (by decide) rfl (fun ls hl => ?_)
          refine lv_goto (tgt := 4) hx hb dX4_toldPrice_39 (by decide) ?_
          exact ih4 (i + 1) (mp_law nw i h q) _ _ _ (by first | assumption | omega) (by first | (rw [mp_told, if_pos nc_21, ← hL4_1]; done) | (rw [mp_told, if_neg nc_21]; exact hL4_1)) (by omega) hP hS (lv_sub hl [2, 3, 1, 0] rfl)
  exact L4 (lc - 0 + 1) 0 (nI 0) _ _ _ (by first | assumption | omega) rfl (Nat.lt_succ_self _) hP hS (lv_sub hl [2, 3, 1, 0] rfl)
set_option maxHeartbeats 4000000 in
set_option maxRecDepth 100000 in
theorem c_X4_priceOf (l : Launch) (dC : Nat → ClassId) (dI : Nat → Nat → Nat) (m0 m1 m2 m3 m4 m5 m6 m7 m8 : Nat) (km1 : ClassId) (bk : Nat) (sd : Int32) (cl : Int32) (pc : Int32) (op : Int32) (nw : Nat → Int32) (h : Int32) (i0 : bk ≤ 40) (i1 : okN nw) : Met l yX4_priceOf wsX4_priceOf ({ frames := 3, cells := 0, slots := 0, locals := 69 }) (va_Pc [.ref m0, .int h] (fun U => va_P (dC, dI) vwCl [(m0, .inr (4, [.ref m1, .ref m2, .int (nI bk), .ref m3, .ref m4, .ref m5, .ref m6, .int sd, .ref m7, .ref m8, .int cl, .int pc, .int op])), (m1, .inl (km1, 93, .inl nw))] U.heap ∧ va_K (dC, dI) vwCl [(km1, .int)] U)) (va_Qi (fun r (_ : Unit) => r = mp_po nw pc op h) (fun _ _ => True) (fun _ => False)) 0 0 (fun _ => False) := by
  refine Met.ofW (cc := cX4_priceOf) (maxL := 2) (ret := (some .int)) (by decide) rfl ?_
  intro p e s m args below meth c s₁ B hml hv
  obtain ⟨rfl, hP, hK⟩ := hv
  have hx := B.exec
  have hb := B.bytes
  have hr := B.returns
  have hts := atoms_spec (ws := wsX4_priceOf) B.pre
  have hown : s.vm.findClass RX4 = some m.cls := findClass_of_methodNamed B.named
  have hlocks := B.notSynchronized
  have inX4 : ∀ w ∈ wsX40, w ∈ wsX4_priceOf := fun _ h => List.mem_cons_of_mem _ (List.mem_append_right _ h)
  have hS : va_S (fun _ => False) s.heap s.heap [] := va_S.rf
  have hl := lv_entry ([.ref m0, .int h]) (n := 2) (Nat.le_of_ble_eq_true rfl)
  rw [lg_entry_eq]
  generalize (lg_sl ([.ref m0, .int h]) ++ List.replicate (2 - (lg_sl ([.ref m0, .int h])).length) Slot.unset).toArray = ls at hl ⊢
  generalize hQe : MQ below _ _ s 0 0 _ = Q
  generalize ([.ref m0, .int h] : List Value).toArray = args at hts hQe ⊢
  have hl : lv_has ls 2 [(0, .ref m0), (1, .int h)] := hl
  refine lv_iload_n hx hb dX4_priceOf_0 rfl (lv_at hl 1 rfl) ?_
  refine lv_aload_n hx hb dX4_priceOf_1 rfl (lv_at hl 0 rfl) ?_
  refine va_get (D := (dC, dI)) (ci := 4) (v := .int pc) (C := RX4) (T := TX4) (N := 13) hx hb hts inX4 hown hK hP 0 rfl rfl 11 (by decide) (hts (.fieldLink RX4 39 "StoreSlopesModel" "priced" "I") (List.mem_of_getElem? (i := 1) rfl)) (fun _ h9 => h9) rfl dX4_priceOf_2 ?_
  refine lv_icmp_ne (tgt := 15) hx hb dX4_priceOf_5 (by decide) (fun c_5 => ?_) (fun c_5 => ?_)
  · refine lv_aload_n hx hb dX4_priceOf_15 rfl (lv_at hl 0 rfl) ?_
    refine lv_iload_n hx hb dX4_priceOf_16 rfl (lv_at hl 1 rfl) ?_
    have hPc := hP.sub (ws' := [(m0, .inr (4, [.ref m1, .ref m2, .int (nI bk), .ref m3, .ref m4, .ref m5, .ref m6, .int sd, .ref m7, .ref m8, .int cl, .int pc, .int op])), (m1, .inl (km1, 93, .inl nw))]) [0, 1] rfl
    have hKc := hK.sub (tys' := [(km1, .int)]) [0] rfl
    refine va_calli (va_runV (As := [.int h]) (rest := []) ⟨hx, hb, hml, hown, hts⟩ (c_X4_toldPrice l dC dI m0 m1 m2 m3 m4 m5 m6 m7 m8 km1 bk sd cl pc op nw h (by first | assumption | omega) (by first | assumption | omega) ) (cwV 1 hts gX4_priceOf_X4_toldPrice rfl rfl rfl (by decide +kernel) ⟨Nat.le_of_ble_eq_true rfl, Nat.le_of_ble_eq_true rfl⟩) ⟨fun a U g mk q => by obtain ⟨q0, qP, qK⟩ := q; exact ⟨q0, qP, va_K.moved (u := U) (U := U.calling g mk a) (Vm.Alike.refl U.vm) qK⟩, va_recv hKc hPc (ci := 4) (q0 := 0) rfl rfl, fun U hU hW => ⟨rfl, by rw [hU]; exact hPc, va_K.moved hW.alike hKc⟩⟩ rfl rfl hl.1 rfl (lv_room (Nat.le_of_ble_eq_true rfl)) dX4_priceOf_17 ⟨Nat.le_of_ble_eq_true rfl, Nat.le_of_ble_eq_true rfl⟩) hS (fun q _ h => h.elim) (fun q h => h.elim) (fun r_1 u9 t9 H1 locs ht hvm hw hB hz1 hk1 hS => ?_)
    refine W.widen (k := 0) (n := 0) (Nat.le_of_ble_eq_true rfl) (Nat.le_of_ble_eq_true rfl) ?_
    have hP := hP.kept (H1 := H1) (fun k q hk => hk1 q.1 (hP k q hk).lt (fun h => h))
    clear hz1 hk1 hB ht hvm t9
    generalize H1 = H at hP hS ⊢
    have hP : va_P (dC, dI) vwCl [(m0, .inr (4, [.ref m1, .ref m2, .int (nI bk), .ref m3, .ref m4, .ref m5, .ref m6, .int sd, .ref m7, .ref m8, .int cl, .int pc, .int op])), (m1, .inl (km1, 93, .inl nw))] H := hP
    subst hw
    subst hQe
    exact W.iret (v := (mp_price nw h)) hx hb hr (fun t ht hW => ⟨⟨_, (), rfl, (by rw [mp_po, if_neg c_5]), trivial⟩, hS.F ht⟩) hS.2.2 dX4_priceOf_20
  · refine lv_aload_n hx hb dX4_priceOf_8 rfl (lv_at hl 0 rfl) ?_
    refine va_get (D := (dC, dI)) (ci := 4) (v := .int op) (C := RX4) (T := TX4) (N := 13) hx hb hts inX4 hown hK hP 0 rfl rfl 12 (by decide) (hts (.fieldLink RX4 58 "StoreSlopesModel" "ownPrice" "I") (List.mem_of_getElem? (i := 2) rfl)) (fun _ h9 => h9) rfl dX4_priceOf_9 ?_
    refine lv_goto (tgt := 20) hx hb dX4_priceOf_12 (by decide) ?_
    subst hQe
    exact W.iret (v := op) hx hb hr (fun t ht hW => ⟨⟨_, (), rfl, (by rw [mp_po, if_pos c_5]), trivial⟩, hS.F ht⟩) hS.2.2 dX4_priceOf_20
set_option maxHeartbeats 4000000 in
set_option maxRecDepth 100000 in
theorem c_X4_lawOf (l : Launch) (dC : Nat → ClassId) (dI : Nat → Nat → Nat) (m0 m1 m2 m3 m4 m5 m6 m7 m8 : Nat) (km1 : ClassId) (bk : Nat) (sd : Int32) (cl : Int32) (pc : Int32) (op : Int32) (nw : Nat → Int32) (h : Int32) (i0 : bk ≤ 40) (i1 : okN nw) : Met l yX4_lawOf wsX4_lawOf ({ frames := 2, cells := 0, slots := 0, locals := 44 }) (va_Pc [.ref m0, .int h] (fun U => va_P (dC, dI) vwCl [(m0, .inr (4, [.ref m1, .ref m2, .int (nI bk), .ref m3, .ref m4, .ref m5, .ref m6, .int sd, .ref m7, .ref m8, .int cl, .int pc, .int op])), (m1, .inl (km1, 93, .inl nw))] U.heap ∧ va_K (dC, dI) vwCl [(km1, .int)] U)) (va_Qi (fun r (_ : Unit) => True) (fun _ _ => True) (fun _ => False)) 0 0 (fun _ => False) := by
  refine Met.ofW (cc := cX4_lawOf) (maxL := 4) (ret := (some .int)) (by decide) rfl ?_
  intro p e s m args below meth c s₁ B hml hv
  obtain ⟨rfl, hP, hK⟩ := hv
  have hx := B.exec
  have hb := B.bytes
  have hr := B.returns
  have hts := atoms_spec (ws := wsX4_lawOf) B.pre
  have hown : s.vm.findClass RX4 = some m.cls := findClass_of_methodNamed B.named
  have hlocks := B.notSynchronized
  have inX4 : ∀ w ∈ wsX40, w ∈ wsX4_lawOf := fun _ h => List.mem_cons_of_mem _ (List.mem_append_right _ h)
  have hS : va_S (fun _ => False) s.heap s.heap [] := va_S.rf
  have hl := lv_entry ([.ref m0, .int h]) (n := 4) (Nat.le_of_ble_eq_true rfl)
  rw [lg_entry_eq]
  generalize (lg_sl ([.ref m0, .int h]) ++ List.replicate (4 - (lg_sl ([.ref m0, .int h])).length) Slot.unset).toArray = ls at hl ⊢
  generalize hQe : MQ below _ _ s 0 0 _ = Q
  generalize ([.ref m0, .int h] : List Value).toArray = args at hts hQe ⊢
  have hl : lv_has ls 4 [(0, .ref m0), (1, .int h)] := hl
  obtain ⟨lc, hlc, elc⟩ := i1.2.2.2.2.1
  refine lv_iconst (v := (-1)) hx hb dX4_lawOf_0 (by decide) ?_
  refine lv_istore_n (lv' := [(2, .int ((-1))), (0, .ref m0), (1, .int h)]) hx hb dX4_lawOf_1 rfl hl (by decide) rfl (fun ls hl => ?_)
  refine lv_iconst (v := nI 0) hx hb dX4_lawOf_2 (by decide) ?_
  refine lv_istore_n (lv' := [(3, .int (nI 0)), (2, .int ((-1))), (0, .ref m0), (1, .int h)]) hx hb dX4_lawOf_3 rfl hl (by decide) rfl (fun ls hl => ?_)
  have L4 : ∀ (n : Nat) (i : Nat) (q : Int32) (H : Heap) (locs : List Loc) (ls : Array Slot), i ≤ lc → lc - i < n → va_P (dC, dI) vwCl [(m0, .inr (4, [.ref m1, .ref m2, .int (nI bk), .ref m3, .ref m4, .ref m5, .ref m6, .int sd, .ref m7, .ref m8, .int cl, .int pc, .int op])), (m1, .inl (km1, 93, .inl nw))] H → va_S (fun _ => False) s.heap H locs → lv_has ls 4 [(0, .ref m0), (1, .int h), (2, .int q), (3, .int (nI i))] → W p l e (headSpec wsX4_lawOf { frames := 2, cells := 0, slots := 0, locals := 44 }).room s m args below meth c H locs 0 0 Q (F0 m 4 ls []) := by
    intro n
    induction n with
    | zero => intro i q H locs ls hL4_0 hn; exact absurd hn (Nat.not_lt_zero _)
    | succ n ih4 =>
      intro i q H locs ls hL4_0 hn hP hS hl
      refine lv_iload_n hx hb dX4_lawOf_4 rfl (lv_at hl 3 rfl) ?_
      refine lv_aload_n hx hb dX4_lawOf_5 rfl (lv_at hl 0 rfl) ?_
      refine va_get (D := (dC, dI)) (ci := 4) (v := .ref m1) (C := RX4) (T := TX4) (N := 13) hx hb hts inX4 hown hK hP 0 rfl rfl 0 (by decide) (hts (.fieldLink RX4 7 "StoreSlopesModel" "now" "[I") (List.mem_of_getElem? (i := 1) rfl)) (fun _ h9 => h9) rfl dX4_lawOf_6 ?_
      refine lv_bipush (v := nI 7) hx hb dX4_lawOf_9 (by decide) ?_
      refine va_iald hx hb hK hP 1 0 rfl rfl (vp_in_nI (show 7 < 93 by omega) (by omega)) dX4_lawOf_11 ?_
      refine tp_as (cl_as (by omega) elc) ?_
      refine lv_icmp_ge (tgt := 36) hx hb dX4_lawOf_12 (by decide) (fun c_12 => ?_) (fun c_12 => ?_)
      · have c_12 := (nI_leI (by omega : lc < 2 ^ 31) (by omega : i < 2 ^ 31)).mp c_12
        refine lv_iload_n hx hb dX4_lawOf_36 rfl (lv_at hl 2 rfl) ?_
        subst hQe
        exact W.iret (v := q) hx hb hr (fun t ht hW => ⟨⟨_, (), rfl, trivial, trivial⟩, hS.F ht⟩) hS.2.2 dX4_lawOf_37
      · have c_12 := (not_congr (nI_leI (by omega : lc < 2 ^ 31) (by omega : i < 2 ^ 31))).mp c_12
        refine lv_aload_n hx hb dX4_lawOf_15 rfl (lv_at hl 0 rfl) ?_
        refine lv_iload_n hx hb dX4_lawOf_16 rfl (lv_at hl 3 rfl) ?_
        refine lv_iload_n hx hb dX4_lawOf_17 rfl (lv_at hl 1 rfl) ?_
        have hPc := hP.sub (ws' := [(m0, .inr (4, [.ref m1, .ref m2, .int (nI bk), .ref m3, .ref m4, .ref m5, .ref m6, .int sd, .ref m7, .ref m8, .int cl, .int pc, .int op])), (m1, .inl (km1, 93, .inl nw))]) [0, 1] rfl
        have hKc := hK.sub (tys' := [(km1, .int)]) [0] rfl
        refine va_calli (va_runV (As := [.int (nI i), .int h]) (rest := []) ⟨hx, hb, hml, hown, hts⟩ (c_X4_isOf l dC dI m0 m1 m2 m3 m4 m5 m6 m7 m8 km1 bk sd cl pc op nw i h (by first | assumption | omega) (by first | assumption | omega) (by first | assumption | omega)) (cwV 2 hts gX4_lawOf_X4_isOf rfl rfl rfl (by decide +kernel) ⟨Nat.le_of_ble_eq_true rfl, Nat.le_of_ble_eq_true rfl⟩) ⟨fun a U g mk q => by obtain ⟨q0, qP, qK⟩ := q; exact ⟨q0, qP, va_K.moved (u := U) (U := U.calling g mk a) (Vm.Alike.refl U.vm) qK⟩, va_recv hKc hPc (ci := 4) (q0 := 0) rfl rfl, fun U hU hW => ⟨rfl, by rw [hU]; exact hPc, va_K.moved hW.alike hKc⟩⟩ rfl rfl hl.1 rfl (lv_room (Nat.le_of_ble_eq_true rfl)) dX4_lawOf_18 ⟨Nat.le_of_ble_eq_true rfl, Nat.le_of_ble_eq_true rfl⟩) hS (fun q _ h => h.elim) (fun q h => h.elim) (fun r_1 u9 t9 H1 locs ht hvm hw hB hz1 hk1 hS => ?_)
        refine W.widen (k := 0) (n := 0) (Nat.le_of_ble_eq_true rfl) (Nat.le_of_ble_eq_true rfl) ?_
        have hP := hP.kept (H1 := H1) (fun k q hk => hk1 q.1 (hP k q hk).lt (fun h => h))
        clear hz1 hk1 hB ht hvm t9
        generalize H1 = H at hP hS ⊢
        have hP : va_P (dC, dI) vwCl [(m0, .inr (4, [.ref m1, .ref m2, .int (nI bk), .ref m3, .ref m4, .ref m5, .ref m6, .int sd, .ref m7, .ref m8, .int cl, .int pc, .int op])), (m1, .inl (km1, 93, .inl nw))] H := hP
        have wr_1 := hw
        clear hw
        refine lv_if_eq (tgt := 28) hx hb dX4_lawOf_21 (by decide) (fun c_21 => ?_) (fun c_21 => ?_)
        · have nc_21 := b_0 wr_1 c_21
          refine lv_iload_n hx hb dX4_lawOf_28 rfl (lv_at hl 2 rfl) ?_
          refine lv_istore_n (lv' := [(2, .int q), (0, .ref m0), (1, .int h), (3, .int (nI i))]) hx hb dX4_lawOf_29 rfl hl (by decide) rfl (fun ls hl => ?_)
          refine lv_iinc (v := nI (i + 1)) (lv' := [(3, .int (nI (i + 1))), (2, .int q), (0, .ref m0), (1, .int h)]) hx hb dX4_lawOf_30 hl (k := 3) rfl (inc_n i 1) (by decide) rfl (fun ls hl => ?_)
          refine lv_goto (tgt := 4) hx hb dX4_lawOf_33 (by decide) ?_
          exact ih4 (i + 1) q _ _ _ (by first | assumption | omega) (by omega) hP hS (lv_sub hl [2, 3, 1, 0] rfl)
        · have nc_21 := b_1 wr_1 c_21
          refine lv_iload_n hx hb dX4_lawOf_24 rfl (lv_at hl 3 rfl) ?_
          refine lv_goto (tgt := 29) hx hb dX4_lawOf_25 (by decide) ?_
          refine lv_istore_n (lv' := [(2, .int (nI i)), (0, .ref m0), (1, .int h), (3, .int (nI i))]) hx hb dX4_lawOf_29 rfl hl (by decide) rfl (fun ls hl => ?_)
          refine lv_iinc (v := nI (i + 1)) (lv' := [(3, .int (nI (i + 1))), (2, .int (nI i)), (0, .ref m0), (1, .int h)]) hx hb dX4_lawOf_30 hl (k := 3) rfl (inc_n i 1) (by decide) rfl (fun ls hl => ?_)
          refine lv_goto (tgt := 4) hx hb dX4_lawOf_33 (by decide) ?_
          exact ih4 (i + 1) (nI i) _ _ _ (by first | assumption | omega) (by omega) hP hS (lv_sub hl [2, 3, 1, 0] rfl)
  exact L4 (lc - 0 + 1) 0 ((-1)) _ _ _ (by first | assumption | omega) (Nat.lt_succ_self _) hP hS (lv_sub hl [2, 3, 1, 0] rfl)
set_option maxHeartbeats 4000000 in
set_option maxRecDepth 100000 in
theorem c_X4_brings (l : Launch) (dC : Nat → ClassId) (dI : Nat → Nat → Nat) (m0 m1 m2 m3 m4 m5 m6 m7 m8 : Nat) (km1 : ClassId) (bk : Nat) (sd : Int32) (cl : Int32) (pc : Int32) (op : Int32) (nw : Nat → Int32) (bp : Int32) (bf : Int32) (bt : Int32) (i0 : bk ≤ 40) (i1 : okN nw) : Met l yX4_brings wsX4_brings ({ frames := 0, cells := 0, slots := 0, locals := 0 }) (va_Pc [.ref m0, .int bp, .int bf, .int bt] (fun U => va_P (dC, dI) vwCl [(m0, .inr (4, [.ref m1, .ref m2, .int (nI bk), .ref m3, .ref m4, .ref m5, .ref m6, .int sd, .ref m7, .ref m8, .int cl, .int pc, .int op])), (m1, .inl (km1, 93, .inl nw))] U.heap ∧ va_K (dC, dI) vwCl [(km1, .int)] U)) (va_Qi (fun r (_ : Unit) => r = mp_br nw bp bf bt) (fun _ _ => True) (fun _ => False)) 0 0 (fun _ => False) := by
  refine Met.ofW (cc := cX4_brings) (maxL := 5) (ret := (some .int)) (by decide) rfl ?_
  intro p e s m args below meth c s₁ B hml hv
  obtain ⟨rfl, hP, hK⟩ := hv
  have hx := B.exec
  have hb := B.bytes
  have hr := B.returns
  have hts := atoms_spec (ws := wsX4_brings) B.pre
  have hown : s.vm.findClass RX4 = some m.cls := findClass_of_methodNamed B.named
  have hlocks := B.notSynchronized
  have inX4 : ∀ w ∈ wsX40, w ∈ wsX4_brings := fun _ h => List.mem_cons_of_mem _ (List.mem_append_right _ h)
  have hS : va_S (fun _ => False) s.heap s.heap [] := va_S.rf
  have hl := lv_entry ([.ref m0, .int bp, .int bf, .int bt]) (n := 5) (Nat.le_of_ble_eq_true rfl)
  rw [lg_entry_eq]
  generalize (lg_sl ([.ref m0, .int bp, .int bf, .int bt]) ++ List.replicate (5 - (lg_sl ([.ref m0, .int bp, .int bf, .int bt])).length) Slot.unset).toArray = ls at hl ⊢
  generalize hQe : MQ below _ _ s 0 0 _ = Q
  generalize ([.ref m0, .int bp, .int bf, .int bt] : List Value).toArray = args at hts hQe ⊢
  have hl : lv_has ls 5 [(0, .ref m0), (1, .int bp), (2, .int bf), (3, .int bt)] := hl
  refine lv_iload_n hx hb dX4_brings_0 rfl (lv_at hl 3 rfl) ?_
  refine lv_iload_n hx hb dX4_brings_1 rfl (lv_at hl 2 rfl) ?_
  refine lv_icmp_le (tgt := 14) hx hb dX4_brings_2 (by decide) (fun c_2 => ?_) (fun c_2 => ?_)
  · refine lv_iload_n hx hb dX4_brings_14 rfl (lv_at hl 1 rfl) ?_
    refine lv_aload_n hx hb dX4_brings_15 rfl (lv_at hl 0 rfl) ?_
    refine va_get (D := (dC, dI)) (ci := 4) (v := .ref m1) (C := RX4) (T := TX4) (N := 13) hx hb hts inX4 hown hK hP 0 rfl rfl 0 (by decide) (hts (.fieldLink RX4 7 "StoreSlopesModel" "now" "[I") (List.mem_of_getElem? (i := 1) rfl)) (fun _ h9 => h9) rfl dX4_brings_16 ?_
    refine lv_bipush (v := nI 6) hx hb dX4_brings_19 (by decide) ?_
    refine va_iald hx hb hK hP 1 0 rfl rfl (vp_in_nI (show 6 < 93 by omega) (by omega)) dX4_brings_21 ?_
    refine tp_as (cl_at (by omega)) ?_
    refine lv_isub hx hb dX4_brings_22 ?_
    refine lv_iload_n hx hb dX4_brings_23 rfl (lv_at hl 2 rfl) ?_
    refine lv_iload_n hx hb dX4_brings_24 rfl (lv_at hl 3 rfl) ?_
    refine lv_isub hx hb dX4_brings_25 ?_
    refine lv_imul hx hb dX4_brings_26 ?_
    refine lv_istore (lv' := [(4, .int ((bp - (nw 6)) * (bf - bt))), (0, .ref m0), (1, .int bp), (2, .int bf), (3, .int bt)]) hx hb dX4_brings_27 hl (by decide) rfl (fun ls hl => ?_)
    refine lv_iload hx hb dX4_brings_29 (lv_at hl 0 rfl) ?_
    refine lv_aload_n hx hb dX4_brings_31 rfl (lv_at hl 1 rfl) ?_
    refine va_get (D := (dC, dI)) (ci := 4) (v := .ref m1) (C := RX4) (T := TX4) (N := 13) hx hb hts inX4 hown hK hP 0 rfl rfl 0 (by decide) (hts (.fieldLink RX4 7 "StoreSlopesModel" "now" "[I") (List.mem_of_getElem? (i := 1) rfl)) (fun _ h9 => h9) rfl dX4_brings_32 ?_
    refine lv_iconst (v := nI 4) hx hb dX4_brings_35 (by decide) ?_
    refine va_iald hx hb hK hP 1 0 rfl rfl (vp_in_nI (show 4 < 93 by omega) (by omega)) dX4_brings_36 ?_
    refine tp_as (cl_at (by omega)) ?_
    refine lv_iload_n hx hb dX4_brings_37 rfl (lv_at hl 4 rfl) ?_
    refine lv_imul hx hb dX4_brings_38 ?_
    refine lv_isub hx hb dX4_brings_39 ?_
    subst hQe
    exact W.iret (v := (((bp - (nw 6)) * (bf - bt)) - ((nw 4) * bt))) hx hb hr (fun t ht hW => ⟨⟨_, (), rfl, (by first | (rw [mp_br, if_neg (by rw [Int32.not_lt]; exact c_2)]; done) | (rw [mp_br, if_pos (Int32.not_le.mp c_2)]; done)), trivial⟩, hS.F ht⟩) hS.2.2 dX4_brings_40
  · refine lv_iload_n hx hb dX4_brings_5 rfl (lv_at hl 1 rfl) ?_
    refine lv_ineg hx hb dX4_brings_6 ?_
    refine lv_iload_n hx hb dX4_brings_7 rfl (lv_at hl 3 rfl) ?_
    refine lv_iload_n hx hb dX4_brings_8 rfl (lv_at hl 2 rfl) ?_
    refine lv_isub hx hb dX4_brings_9 ?_
    refine lv_imul hx hb dX4_brings_10 ?_
    refine lv_goto (tgt := 27) hx hb dX4_brings_11 (by decide) ?_
    refine lv_istore (lv' := [(4, .int ((-bp) * (bt - bf))), (0, .ref m0), (1, .int bp), (2, .int bf), (3, .int bt)]) hx hb dX4_brings_27 hl (by decide) rfl (fun ls hl => ?_)
    refine lv_iload hx hb dX4_brings_29 (lv_at hl 0 rfl) ?_
    refine lv_aload_n hx hb dX4_brings_31 rfl (lv_at hl 1 rfl) ?_
    refine va_get (D := (dC, dI)) (ci := 4) (v := .ref m1) (C := RX4) (T := TX4) (N := 13) hx hb hts inX4 hown hK hP 0 rfl rfl 0 (by decide) (hts (.fieldLink RX4 7 "StoreSlopesModel" "now" "[I") (List.mem_of_getElem? (i := 1) rfl)) (fun _ h9 => h9) rfl dX4_brings_32 ?_
    refine lv_iconst (v := nI 4) hx hb dX4_brings_35 (by decide) ?_
    refine va_iald hx hb hK hP 1 0 rfl rfl (vp_in_nI (show 4 < 93 by omega) (by omega)) dX4_brings_36 ?_
    refine tp_as (cl_at (by omega)) ?_
    refine lv_iload_n hx hb dX4_brings_37 rfl (lv_at hl 4 rfl) ?_
    refine lv_imul hx hb dX4_brings_38 ?_
    refine lv_isub hx hb dX4_brings_39 ?_
    subst hQe
    exact W.iret (v := (((-bp) * (bt - bf)) - ((nw 4) * bt))) hx hb hr (fun t ht hW => ⟨⟨_, (), rfl, (by first | (rw [mp_br, if_neg (by rw [Int32.not_lt]; exact c_2)]; done) | (rw [mp_br, if_pos (Int32.not_le.mp c_2)]; done)), trivial⟩, hS.F ht⟩) hS.2.2 dX4_brings_40
set_option maxHeartbeats 4000000 in
set_option maxRecDepth 100000 in
theorem c_X4_isLaw (l : Launch) (dC : Nat → ClassId) (dI : Nat → Nat → Nat) (m0 m1 m2 m3 m4 m5 m6 m7 m8 : Nat) (km1 : ClassId) (bk : Nat) (sd : Int32) (cl : Int32) (pc : Int32) (op : Int32) (nw : Nat → Int32) (i : Int32) (i0 : bk ≤ 40) (i1 : okN nw) : Met l yX4_isLaw wsX4_isLaw ({ frames := 1, cells := 0, slots := 0, locals := 22 }) (va_Pc [.ref m0, .int i] (fun U => va_P (dC, dI) vwCl [(m0, .inr (4, [.ref m1, .ref m2, .int (nI bk), .ref m3, .ref m4, .ref m5, .ref m6, .int sd, .ref m7, .ref m8, .int cl, .int pc, .int op])), (m1, .inl (km1, 93, .inl nw))] U.heap ∧ va_K (dC, dI) vwCl [(km1, .int)] U)) (va_Qi (fun r (_ : Unit) => (r = 0 ∧ True) ∨ (r = 1 ∧ ∃ j c : Nat, j < c ∧ c ≤ 12 ∧ nw 7 = nI c ∧ i = nI j)) (fun _ _ => True) (fun _ => False)) 0 0 (fun _ => False) := by
  refine Met.ofW (cc := cX4_isLaw) (maxL := 2) (ret := (some .boolean)) (by decide) rfl ?_
  intro p e s m args below meth c s₁ B hml hv
  obtain ⟨rfl, hP, hK⟩ := hv
  have hx := B.exec
  have hb := B.bytes
  have hr := B.returns
  have hts := atoms_spec (ws := wsX4_isLaw) B.pre
  have hown : s.vm.findClass RX4 = some m.cls := findClass_of_methodNamed B.named
  have hlocks := B.notSynchronized
  have inX4 : ∀ w ∈ wsX40, w ∈ wsX4_isLaw := fun _ h => List.mem_cons_of_mem _ (List.mem_append_right _ h)
  have hS : va_S (fun _ => False) s.heap s.heap [] := va_S.rf
  have hl := lv_entry ([.ref m0, .int i]) (n := 2) (Nat.le_of_ble_eq_true rfl)
  rw [lg_entry_eq]
  generalize (lg_sl ([.ref m0, .int i]) ++ List.replicate (2 - (lg_sl ([.ref m0, .int i])).length) Slot.unset).toArray = ls at hl ⊢
  generalize hQe : MQ below _ _ s 0 0 _ = Q
  generalize ([.ref m0, .int i] : List Value).toArray = args at hts hQe ⊢
  have hl : lv_has ls 2 [(0, .ref m0), (1, .int i)] := hl
  obtain ⟨lc, hlc, elc⟩ := i1.2.2.2.2.1
  refine lv_iload_n hx hb dX4_isLaw_0 rfl (lv_at hl 1 rfl) ?_
  refine lv_iconst (v := nI 0) hx hb dX4_isLaw_1 (by decide) ?_
  refine lv_aload_n hx hb dX4_isLaw_2 rfl (lv_at hl 0 rfl) ?_
  refine va_get (D := (dC, dI)) (ci := 4) (v := .ref m1) (C := RX4) (T := TX4) (N := 13) hx hb hts inX4 hown hK hP 0 rfl rfl 0 (by decide) (hts (.fieldLink RX4 7 "StoreSlopesModel" "now" "[I") (List.mem_of_getElem? (i := 1) rfl)) (fun _ h9 => h9) rfl dX4_isLaw_3 ?_
  refine lv_bipush (v := nI 7) hx hb dX4_isLaw_6 (by decide) ?_
  refine va_iald hx hb hK hP 1 0 rfl rfl (vp_in_nI (show 7 < 93 by omega) (by omega)) dX4_isLaw_8 ?_
  refine tp_as (cl_as (by omega) elc) ?_
  refine lv_iconst (v := nI 1) hx hb dX4_isLaw_9 (by decide) ?_
  refine lv_isub hx hb dX4_isLaw_10 ?_
  refine tp_as (dn_sub lc) ?_
  refine va_calli (va_runS (As := [.int i, .int (nI 0), .int (dn lc)]) (rest := []) ⟨hx, hb, hml, hown, hts⟩ (c_X4_in l dC dI   i (nI 0) (dn lc)  ) (va_cwS 3 hts gX4_isLaw_X4_in rfl rfl rfl (by decide +kernel) ⟨Nat.le_of_ble_eq_true rfl, Nat.le_of_ble_eq_true rfl⟩) ⟨fun a U g mk q => q, fun U hU hW => ⟨rfl, trivial⟩⟩ rfl rfl hl.1 rfl (lv_room (Nat.le_of_ble_eq_true rfl)) dX4_isLaw_11 ⟨Nat.le_of_ble_eq_true rfl, Nat.le_of_ble_eq_true rfl⟩) hS (fun q _ h => h.elim) (fun q h => h.elim) (fun r_1 u9 t9 H1 locs ht hvm hw hB hz1 hk1 hS => ?_)
  refine W.widen (k := 0) (n := 0) (Nat.le_of_ble_eq_true rfl) (Nat.le_of_ble_eq_true rfl) ?_
  have hP := hP.kept (H1 := H1) (fun k q hk => hk1 q.1 (hP k q hk).lt (fun h => h))
  clear hz1 hk1 hB ht hvm t9
  generalize H1 = H at hP hS ⊢
  have hP : va_P (dC, dI) vwCl [(m0, .inr (4, [.ref m1, .ref m2, .int (nI bk), .ref m3, .ref m4, .ref m5, .ref m6, .int sd, .ref m7, .ref m8, .int cl, .int pc, .int op])), (m1, .inl (km1, 93, .inl nw))] H := hP
  have wr_1 := hw
  clear hw
  subst hQe
  exact W.zret (v := r_1) hx hb hr (bz wr_1) (fun t ht hW => ⟨⟨_, (), rfl, (is_law hlc elc wr_1), trivial⟩, hS.F ht⟩) hS.2.2 dX4_isLaw_14
set_option maxHeartbeats 4000000 in
set_option maxRecDepth 100000 in
theorem c_X4_before (l : Launch) (dC : Nat → ClassId) (dI : Nat → Nat → Nat) (m0 m1 m8 m2 m3 m4 m5 m6 m7 : Nat) (km1 km8 : ClassId) (bk : Nat) (sd : Int32) (cl : Int32) (pc : Int32) (op : Int32) (nw : Nat → Int32) (pl : Nat → Int32) (h : Nat) (i0 : bk ≤ 40) (i1 : okN nw) (i2 : bdA 60 24 pl) (g0 : h < 24) (g1 : ∃ j : Nat, j ≤ h ∧ nw 0 = nI j) : Met l yX4_before wsX4_before ({ frames := 0, cells := 0, slots := 0, locals := 0 }) (va_Pc [.ref m0, .int (nI h)] (fun U => va_P (dC, dI) vwCl [(m0, .inr (4, [.ref m1, .ref m2, .int (nI bk), .ref m3, .ref m4, .ref m5, .ref m6, .int sd, .ref m7, .ref m8, .int cl, .int pc, .int op])), (m1, .inl (km1, 93, .inl nw)), (m8, .inl (km8, 24, .inl pl))] U.heap ∧ va_K (dC, dI) vwCl [(km1, .int), (km8, .int)] U)) (va_Qi (fun r (_ : Unit) => True) (fun _ _ => True) (fun _ => False)) 0 0 (fun _ => False) := by
  refine Met.ofW (cc := cX4_before) (maxL := 2) (ret := (some .int)) (by decide) rfl ?_
  intro p e s m args below meth c s₁ B hml hv
  obtain ⟨rfl, hP, hK⟩ := hv
  have hx := B.exec
  have hb := B.bytes
  have hr := B.returns
  have hts := atoms_spec (ws := wsX4_before) B.pre
  have hown : s.vm.findClass RX4 = some m.cls := findClass_of_methodNamed B.named
  have hlocks := B.notSynchronized
  have inX4 : ∀ w ∈ wsX40, w ∈ wsX4_before := fun _ h => List.mem_cons_of_mem _ (List.mem_append_right _ h)
  have hS : va_S (fun _ => False) s.heap s.heap [] := va_S.rf
  have hl := lv_entry ([.ref m0, .int (nI h)]) (n := 2) (Nat.le_of_ble_eq_true rfl)
  rw [lg_entry_eq]
  generalize (lg_sl ([.ref m0, .int (nI h)]) ++ List.replicate (2 - (lg_sl ([.ref m0, .int (nI h)])).length) Slot.unset).toArray = ls at hl ⊢
  generalize hQe : MQ below _ _ s 0 0 _ = Q
  generalize ([.ref m0, .int (nI h)] : List Value).toArray = args at hts hQe ⊢
  have hl : lv_has ls 2 [(0, .ref m0), (1, .int (nI h))] := hl
  obtain ⟨ov, hov, eov⟩ := g1
  refine lv_iload_n hx hb dX4_before_0 rfl (lv_at hl 1 rfl) ?_
  refine lv_aload_n hx hb dX4_before_1 rfl (lv_at hl 0 rfl) ?_
  refine va_get (D := (dC, dI)) (ci := 4) (v := .ref m1) (C := RX4) (T := TX4) (N := 13) hx hb hts inX4 hown hK hP 0 rfl rfl 0 (by decide) (hts (.fieldLink RX4 7 "StoreSlopesModel" "now" "[I") (List.mem_of_getElem? (i := 1) rfl)) (fun _ h9 => h9) rfl dX4_before_2 ?_
  refine lv_iconst (v := nI 0) hx hb dX4_before_5 (by decide) ?_
  refine va_iald hx hb hK hP 1 0 rfl rfl (vp_in_nI (show 0 < 93 by omega) (by omega)) dX4_before_6 ?_
  refine tp_as (cl_as (by omega) eov) ?_
  refine lv_icmp_ne (tgt := 19) hx hb dX4_before_7 (by decide) (fun c_7 => ?_) (fun c_7 => ?_)
  · have c_7 := (not_congr (nI_eq (by omega : h < 2 ^ 31) (by omega : ov < 2 ^ 31))).mp c_7
    refine lv_aload_n hx hb dX4_before_19 rfl (lv_at hl 0 rfl) ?_
    refine va_get (D := (dC, dI)) (ci := 4) (v := .ref m8) (C := RX4) (T := TX4) (N := 13) hx hb hts inX4 hown hK hP 0 rfl rfl 9 (by decide) (hts (.fieldLink RX4 32 "StoreSlopesModel" "plan" "[I") (List.mem_of_getElem? (i := 2) rfl)) (fun _ h9 => h9) rfl dX4_before_20 ?_
    refine lv_iload_n hx hb dX4_before_23 rfl (lv_at hl 1 rfl) ?_
    refine lv_iconst (v := nI 1) hx hb dX4_before_24 (by decide) ?_
    refine lv_isub hx hb dX4_before_25 ?_
    refine tp_as (pk_sub (a := h) (b := 1) (by omega)) ?_
    refine va_iald hx hb hK hP 2 1 rfl rfl (vp_in_nI (show h - 1 < 24 by omega) (by omega)) dX4_before_26 ?_
    obtain ⟨j_1, hj_1, ej_1⟩ := bdA_get (n := 60) (N := 24) (f := pl) (by assumption) (show h - 1 < 24 by omega) (by omega)
    refine tp_as ej_1 ?_
    subst hQe
    exact W.iret (v := (nI j_1)) hx hb hr (fun t ht hW => ⟨⟨_, (), rfl, trivial, trivial⟩, hS.F ht⟩) hS.2.2 dX4_before_27
  · have c_7 := (nI_eq (by omega : h < 2 ^ 31) (by omega : ov < 2 ^ 31)).mp c_7
    refine lv_aload_n hx hb dX4_before_10 rfl (lv_at hl 0 rfl) ?_
    refine va_get (D := (dC, dI)) (ci := 4) (v := .ref m1) (C := RX4) (T := TX4) (N := 13) hx hb hts inX4 hown hK hP 0 rfl rfl 0 (by decide) (hts (.fieldLink RX4 7 "StoreSlopesModel" "now" "[I") (List.mem_of_getElem? (i := 1) rfl)) (fun _ h9 => h9) rfl dX4_before_11 ?_
    refine lv_iconst (v := nI 1) hx hb dX4_before_14 (by decide) ?_
    obtain ⟨j_2, hj_2, ej_2⟩ := (show okN nw by assumption).2.1
    refine va_iald hx hb hK hP 1 0 rfl rfl (vp_in_nI (show 1 < 93 by omega) (by omega)) dX4_before_15 ?_
    refine tp_as (cl_as (by omega) ej_2) ?_
    refine lv_goto (tgt := 27) hx hb dX4_before_16 (by decide) ?_
    subst hQe
    exact W.iret (v := (nI j_2)) hx hb hr (fun t ht hW => ⟨⟨_, (), rfl, trivial, trivial⟩, hS.F ht⟩) hS.2.2 dX4_before_27
set_option maxHeartbeats 4000000 in
set_option maxRecDepth 100000 in
theorem c_X4_traded (l : Launch) (dC : Nat → ClassId) (dI : Nat → Nat → Nat) (m0 m1 m8 m2 m3 m4 m5 m6 m7 : Nat) (km1 km8 : ClassId) (bk : Nat) (sd : Int32) (cl : Int32) (pc : Int32) (op : Int32) (nw : Nat → Int32) (pl : Nat → Int32) (w : Int32) (i0 : bk ≤ 40) (i1 : okN nw) (i2 : bdA 60 24 pl) : Met l yX4_traded wsX4_traded ({ frames := 1, cells := 0, slots := 0, locals := 21 }) (va_Pc [.ref m0, .int w] (fun U => va_P (dC, dI) vwCl [(m0, .inr (4, [.ref m1, .ref m2, .int (nI bk), .ref m3, .ref m4, .ref m5, .ref m6, .int sd, .ref m7, .ref m8, .int cl, .int pc, .int op])), (m1, .inl (km1, 93, .inl nw)), (m8, .inl (km8, 24, .inl pl))] U.heap ∧ va_K (dC, dI) vwCl [(km1, .int), (km8, .int)] U)) (va_Qi (fun r (_ : Unit) => True) (fun _ _ => True) (fun _ => False)) 0 0 (fun _ => False) := by
  refine Met.ofW (cc := cX4_traded) (maxL := 5) (ret := (some .int)) (by decide) rfl ?_
  intro p e s m args below meth c s₁ B hml hv
  obtain ⟨rfl, hP, hK⟩ := hv
  have hx := B.exec
  have hb := B.bytes
  have hr := B.returns
  have hts := atoms_spec (ws := wsX4_traded) B.pre
  have hown : s.vm.findClass RX4 = some m.cls := findClass_of_methodNamed B.named
  have hlocks := B.notSynchronized
  have inX4 : ∀ w ∈ wsX40, w ∈ wsX4_traded := fun _ h => List.mem_cons_of_mem _ (List.mem_append_right _ h)
  have hS : va_S (fun _ => False) s.heap s.heap [] := va_S.rf
  have hl := lv_entry ([.ref m0, .int w]) (n := 5) (Nat.le_of_ble_eq_true rfl)
  rw [lg_entry_eq]
  generalize (lg_sl ([.ref m0, .int w]) ++ List.replicate (5 - (lg_sl ([.ref m0, .int w])).length) Slot.unset).toArray = ls at hl ⊢
  generalize hQe : MQ below _ _ s 0 0 _ = Q
  generalize ([.ref m0, .int w] : List Value).toArray = args at hts hQe ⊢
  have hl : lv_has ls 5 [(0, .ref m0), (1, .int w)] := hl
  obtain ⟨ov, hov, eov⟩ := i1.1
  refine lv_iconst (v := nI 0) hx hb dX4_traded_0 (by decide) ?_
  refine lv_istore_n (lv' := [(2, .int (nI 0)), (0, .ref m0), (1, .int w)]) hx hb dX4_traded_1 rfl hl (by decide) rfl (fun ls hl => ?_)
  refine lv_aload_n hx hb dX4_traded_2 rfl (lv_at hl 1 rfl) ?_
  refine va_get (D := (dC, dI)) (ci := 4) (v := .ref m1) (C := RX4) (T := TX4) (N := 13) hx hb hts inX4 hown hK hP 0 rfl rfl 0 (by decide) (hts (.fieldLink RX4 7 "StoreSlopesModel" "now" "[I") (List.mem_of_getElem? (i := 1) rfl)) (fun _ h9 => h9) rfl dX4_traded_3 ?_
  refine lv_iconst (v := nI 0) hx hb dX4_traded_6 (by decide) ?_
  refine va_iald hx hb hK hP 1 0 rfl rfl (vp_in_nI (show 0 < 93 by omega) (by omega)) dX4_traded_7 ?_
  refine tp_as (cl_as (by omega) eov) ?_
  refine lv_istore_n (lv' := [(3, .int (nI ov)), (2, .int (nI 0)), (0, .ref m0), (1, .int w)]) hx hb dX4_traded_8 rfl hl (by decide) rfl (fun ls hl => ?_)
  have L9 : ∀ (n : Nat) (i : Nat) (q : Int32) (H : Heap) (locs : List Loc) (ls : Array Slot), i ≤ 24 → ov ≤ i → 24 - i < n → va_P (dC, dI) vwCl [(m0, .inr (4, [.ref m1, .ref m2, .int (nI bk), .ref m3, .ref m4, .ref m5, .ref m6, .int sd, .ref m7, .ref m8, .int cl, .int pc, .int op])), (m1, .inl (km1, 93, .inl nw)), (m8, .inl (km8, 24, .inl pl))] H → va_S (fun _ => False) s.heap H locs → lv_has ls 5 [(0, .ref m0), (1, .int w), (2, .int q), (3, .int (nI i))] → W p l e (headSpec wsX4_traded { frames := 1, cells := 0, slots := 0, locals := 21 }).room s m args below meth c H locs 0 0 Q (F0 m 9 ls []) := by
    intro n
    induction n with
    | zero => intro i q H locs ls hL9_0 hL9_1 hn; exact absurd hn (Nat.not_lt_zero _)
    | succ n ih9 =>
      intro i q H locs ls hL9_0 hL9_1 hn hP hS hl
      refine lv_iload_n hx hb dX4_traded_9 rfl (lv_at hl 3 rfl) ?_
      refine lv_bipush (v := nI 24) hx hb dX4_traded_10 (by decide) ?_
      refine lv_icmp_ge (tgt := 51) hx hb dX4_traded_12 (by decide) (fun c_12 => ?_) (fun c_12 => ?_)
      · have c_12 := (nI_leI (by omega : 24 < 2 ^ 31) (by omega : i < 2 ^ 31)).mp c_12
        refine lv_iload_n hx hb dX4_traded_51 rfl (lv_at hl 2 rfl) ?_
        subst hQe
        exact W.iret (v := q) hx hb hr (fun t ht hW => ⟨⟨_, (), rfl, trivial, trivial⟩, hS.F ht⟩) hS.2.2 dX4_traded_52
      · have c_12 := (not_congr (nI_leI (by omega : 24 < 2 ^ 31) (by omega : i < 2 ^ 31))).mp c_12
        refine lv_iload_n hx hb dX4_traded_15 rfl (lv_at hl 1 rfl) ?_
        refine lv_aload_n hx hb dX4_traded_16 rfl (lv_at hl 0 rfl) ?_
        refine va_get (D := (dC, dI)) (ci := 4) (v := .ref m8) (C := RX4) (T := TX4) (N := 13) hx hb hts inX4 hown hK hP 0 rfl rfl 9 (by decide) (hts (.fieldLink RX4 32 "StoreSlopesModel" "plan" "[I") (List.mem_of_getElem? (i := 2) rfl)) (fun _ h9 => h9) rfl dX4_traded_17 ?_
        refine lv_iload_n hx hb dX4_traded_20 rfl (lv_at hl 3 rfl) ?_
        refine va_iald hx hb hK hP 2 1 rfl rfl (vp_in_nI (show i < 24 by omega) (by omega)) dX4_traded_21 ?_
        obtain ⟨j_1, hj_1, ej_1⟩ := bdA_get (n := 60) (N := 24) (f := pl) (by assumption) (show i < 24 by omega) (by omega)
        refine tp_as ej_1 ?_
        refine lv_aload_n hx hb dX4_traded_22 rfl (lv_at hl 0 rfl) ?_
        refine lv_iload_n hx hb dX4_traded_23 rfl (lv_at hl 3 rfl) ?_
        have hPc := hP.sub (ws' := [(m0, .inr (4, [.ref m1, .ref m2, .int (nI bk), .ref m3, .ref m4, .ref m5, .ref m6, .int sd, .ref m7, .ref m8, .int cl, .int pc, .int op])), (m1, .inl (km1, 93, .inl nw)), (m8, .inl (km8, 24, .inl pl))]) [0, 1, 2] rfl
        have hKc := hK.sub (tys' := [(km1, .int), (km8, .int)]) [0, 1] rfl
        refine va_calli (va_runV (As := [.int (nI i)]) (rest := [.int (nI j_1), .int w]) ⟨hx, hb, hml, hown, hts⟩ (c_X4_before l dC dI m0 m1 m8 m2 m3 m4 m5 m6 m7 km1 km8 bk sd cl pc op nw pl i (by first | assumption | omega) (by first | assumption | omega) (by first | assumption | omega) (by first | assumption | omega) ⟨_, by omega, eov⟩) (cwV 1 hts gX4_traded_X4_before rfl rfl rfl (by decide +kernel) ⟨Nat.le_of_ble_eq_true rfl, Nat.le_of_ble_eq_true rfl⟩) ⟨fun a U g mk q => by obtain ⟨q0, qP, qK⟩ := q; exact ⟨q0, qP, va_K.moved (u := U) (U := U.calling g mk a) (Vm.Alike.refl U.vm) qK⟩, va_recv hKc hPc (ci := 4) (q0 := 0) rfl rfl, fun U hU hW => ⟨rfl, by rw [hU]; exact hPc, va_K.moved hW.alike hKc⟩⟩ rfl rfl hl.1 rfl (lv_room (Nat.le_of_ble_eq_true rfl)) dX4_traded_24 ⟨Nat.le_of_ble_eq_true rfl, Nat.le_of_ble_eq_true rfl⟩) hS (fun q _ h => h.elim) (fun q h => h.elim) (fun r_2 u9 t9 H1 locs ht hvm hw hB hz1 hk1 hS => ?_)
        refine W.widen (k := 0) (n := 0) (Nat.le_of_ble_eq_true rfl) (Nat.le_of_ble_eq_true rfl) ?_
        have hP := hP.kept (H1 := H1) (fun k q hk => hk1 q.1 (hP k q hk).lt (fun h => h))
        clear hz1 hk1 hB ht hvm t9
        generalize H1 = H at hP hS ⊢
        have hP : va_P (dC, dI) vwCl [(m0, .inr (4, [.ref m1, .ref m2, .int (nI bk), .ref m3, .ref m4, .ref m5, .ref m6, .int sd, .ref m7, .ref m8, .int cl, .int pc, .int op])), (m1, .inl (km1, 93, .inl nw)), (m8, .inl (km8, 24, .inl pl))] H := hP
        clear hw
        refine lv_isub hx hb dX4_traded_27 ?_
        refine tp_any (fun y_3 => ?_)
        refine lv_imul hx hb dX4_traded_28 ?_
        refine tp_any (fun y_4 => ?_)
        refine lv_istore (lv' := [(4, .int y_4), (0, .ref m0), (1, .int w), (2, .int q), (3, .int (nI i))]) hx hb dX4_traded_29 hl (by decide) rfl (fun ls hl => ?_)
        refine lv_iload_n hx hb dX4_traded_31 rfl (lv_at hl 3 rfl) ?_
        refine lv_iload hx hb dX4_traded_32 (lv_at hl 0 rfl) ?_
        refine lv_if_le (tgt := 42) hx hb dX4_traded_34 (by decide) (fun c_34 => ?_) (fun c_34 => ?_)
        · refine lv_iconst (v := nI 0) hx hb dX4_traded_42 (by decide) ?_
          refine lv_iadd hx hb dX4_traded_43 ?_
          refine tp_any (fun y_5 => ?_)
          refine lv_istore_n (lv' := [(2, .int y_5), (4, .int y_4), (0, .ref m0), (1, .int w), (3, .int (nI i))]) hx hb dX4_traded_44 rfl hl (by decide) rfl (fun ls hl => ?_)
          refine lv_iinc (v := nI (i + 1)) (lv' := [(3, .int (nI (i + 1))), (2, .int y_5), (4, .int y_4), (0, .ref m0), (1, .int w)]) hx hb dX4_traded_45 hl (k := 4) rfl (inc_n i 1) (by decide) rfl (fun ls hl => ?_)
          refine lv_goto (tgt := 9) hx hb dX4_traded_48 (by decide) ?_
          exact ih9 (i + 1) y_5 _ _ _ (by first | assumption | omega) (by first | assumption | omega) (by omega) hP hS (lv_sub hl [3, 4, 1, 0] rfl)
        · refine lv_iload hx hb dX4_traded_37 (lv_at hl 0 rfl) ?_
          refine lv_goto (tgt := 43) hx hb dX4_traded_39 (by decide) ?_
          refine lv_iadd hx hb dX4_traded_43 ?_
          refine tp_any (fun y_6 => ?_)
          refine lv_istore_n (lv' := [(2, .int y_6), (4, .int y_4), (0, .ref m0), (1, .int w), (3, .int (nI i))]) hx hb dX4_traded_44 rfl hl (by decide) rfl (fun ls hl => ?_)
          refine lv_iinc (v := nI (i + 1)) (lv' := [(3, .int (nI (i + 1))), (2, .int y_6), (4, .int y_4), (0, .ref m0), (1, .int w)]) hx hb dX4_traded_45 hl (k := 4) rfl (inc_n i 1) (by decide) rfl (fun ls hl => ?_)
          refine lv_goto (tgt := 9) hx hb dX4_traded_48 (by decide) ?_
          exact ih9 (i + 1) y_6 _ _ _ (by first | assumption | omega) (by first | assumption | omega) (by omega) hP hS (lv_sub hl [3, 4, 1, 0] rfl)
  exact L9 (24 - ov + 1) ov (nI 0) _ _ _ (by first | assumption | omega) (by first | assumption | omega) (Nat.lt_succ_self _) hP hS (lv_sub hl [2, 3, 1, 0] rfl)
set_option maxHeartbeats 4000000 in
set_option maxRecDepth 100000 in
theorem c_X4_lawAt (l : Launch) (dC : Nat → ClassId) (dI : Nat → Nat → Nat) (m0 m1 m2 m3 m4 m5 m6 m7 m8 : Nat) (km1 : ClassId) (bk : Nat) (sd : Int32) (cl : Int32) (pc : Int32) (op : Int32) (nw : Nat → Int32) (i : Int32) (w : Int32) (i0 : bk ≤ 40) (i1 : okN nw) : Met l yX4_lawAt wsX4_lawAt ({ frames := 3, cells := 0, slots := 0, locals := 67 }) (va_Pc [.ref m0, .int i, .int w] (fun U => va_P (dC, dI) vwCl [(m0, .inr (4, [.ref m1, .ref m2, .int (nI bk), .ref m3, .ref m4, .ref m5, .ref m6, .int sd, .ref m7, .ref m8, .int cl, .int pc, .int op])), (m1, .inl (km1, 93, .inl nw))] U.heap ∧ va_K (dC, dI) vwCl [(km1, .int)] U)) (va_Qi (fun r (_ : Unit) => True) (fun _ _ => True) (fun _ => False)) 0 0 (fun _ => False) := by
  refine Met.ofW (cc := cX4_lawAt) (maxL := 5) (ret := (some .int)) (by decide) rfl ?_
  intro p e s m args below meth c s₁ B hml hv
  obtain ⟨rfl, hP, hK⟩ := hv
  have hx := B.exec
  have hb := B.bytes
  have hr := B.returns
  have hts := atoms_spec (ws := wsX4_lawAt) B.pre
  have hown : s.vm.findClass RX4 = some m.cls := findClass_of_methodNamed B.named
  have hlocks := B.notSynchronized
  have inX4 : ∀ w ∈ wsX40, w ∈ wsX4_lawAt := fun _ h => List.mem_cons_of_mem _ (List.mem_append_right _ h)
  have hS : va_S (fun _ => False) s.heap s.heap [] := va_S.rf
  have hl := lv_entry ([.ref m0, .int i, .int w]) (n := 5) (Nat.le_of_ble_eq_true rfl)
  rw [lg_entry_eq]
  generalize (lg_sl ([.ref m0, .int i, .int w]) ++ List.replicate (5 - (lg_sl ([.ref m0, .int i, .int w])).length) Slot.unset).toArray = ls at hl ⊢
  generalize hQe : MQ below _ _ s 0 0 _ = Q
  generalize ([.ref m0, .int i, .int w] : List Value).toArray = args at hts hQe ⊢
  have hl : lv_has ls 5 [(0, .ref m0), (1, .int i), (2, .int w)] := hl
  refine lv_aload_n hx hb dX4_lawAt_0 rfl (lv_at hl 0 rfl) ?_
  refine lv_iload_n hx hb dX4_lawAt_1 rfl (lv_at hl 1 rfl) ?_
  have hPc := hP.sub (ws' := [(m0, .inr (4, [.ref m1, .ref m2, .int (nI bk), .ref m3, .ref m4, .ref m5, .ref m6, .int sd, .ref m7, .ref m8, .int cl, .int pc, .int op])), (m1, .inl (km1, 93, .inl nw))]) [0, 1] rfl
  have hKc := hK.sub (tys' := [(km1, .int)]) [0] rfl
  refine va_calli (va_runV (As := [.int i]) (rest := []) ⟨hx, hb, hml, hown, hts⟩ (c_X4_isLaw l dC dI m0 m1 m2 m3 m4 m5 m6 m7 m8 km1 bk sd cl pc op nw i (by first | assumption | omega) (by first | assumption | omega) ) (cwV 1 hts gX4_lawAt_X4_isLaw rfl rfl rfl (by decide +kernel) ⟨Nat.le_of_ble_eq_true rfl, Nat.le_of_ble_eq_true rfl⟩) ⟨fun a U g mk q => by obtain ⟨q0, qP, qK⟩ := q; exact ⟨q0, qP, va_K.moved (u := U) (U := U.calling g mk a) (Vm.Alike.refl U.vm) qK⟩, va_recv hKc hPc (ci := 4) (q0 := 0) rfl rfl, fun U hU hW => ⟨rfl, by rw [hU]; exact hPc, va_K.moved hW.alike hKc⟩⟩ rfl rfl hl.1 rfl (lv_room (Nat.le_of_ble_eq_true rfl)) dX4_lawAt_2 ⟨Nat.le_of_ble_eq_true rfl, Nat.le_of_ble_eq_true rfl⟩) hS (fun q _ h => h.elim) (fun q h => h.elim) (fun r_1 u9 t9 H1 locs ht hvm hw hB hz1 hk1 hS => ?_)
  refine W.widen (k := 0) (n := 0) (Nat.le_of_ble_eq_true rfl) (Nat.le_of_ble_eq_true rfl) ?_
  have hP := hP.kept (H1 := H1) (fun k q hk => hk1 q.1 (hP k q hk).lt (fun h => h))
  clear hz1 hk1 hB ht hvm t9
  generalize H1 = H at hP hS ⊢
  have hP : va_P (dC, dI) vwCl [(m0, .inr (4, [.ref m1, .ref m2, .int (nI bk), .ref m3, .ref m4, .ref m5, .ref m6, .int sd, .ref m7, .ref m8, .int cl, .int pc, .int op])), (m1, .inl (km1, 93, .inl nw))] H := hP
  have wr_1 := hw
  clear hw
  refine lv_if_ne (tgt := 11) hx hb dX4_lawAt_5 (by decide) (fun c_5 => ?_) (fun c_5 => ?_)
  · obtain ⟨j_2, c_3, hj_2, hc_3, ec_3, rfl⟩ := b_1 wr_1 c_5
    refine lv_iload_n hx hb dX4_lawAt_11 rfl (lv_at hl 2 rfl) ?_
    refine lv_iconst (v := nI 0) hx hb dX4_lawAt_12 (by decide) ?_
    refine lv_iconst (v := nI 5) hx hb dX4_lawAt_13 (by decide) ?_
    refine va_calli (va_runS (As := [.int w, .int (nI 0), .int (nI 5)]) (rest := []) ⟨hx, hb, hml, hown, hts⟩ (c_X4_in l dC dI   w (nI 0) (nI 5)  ) (va_cwS 3 hts gX4_lawAt_X4_in rfl rfl rfl (by decide +kernel) ⟨Nat.le_of_ble_eq_true rfl, Nat.le_of_ble_eq_true rfl⟩) ⟨fun a U g mk q => q, fun U hU hW => ⟨rfl, trivial⟩⟩ rfl rfl hl.1 rfl (lv_room (Nat.le_of_ble_eq_true rfl)) dX4_lawAt_14 ⟨Nat.le_of_ble_eq_true rfl, Nat.le_of_ble_eq_true rfl⟩) hS (fun q _ h => h.elim) (fun q h => h.elim) (fun r_4 u9 t9 H1 locs ht hvm hw hB hz1 hk1 hS => ?_)
    refine W.widen (k := 0) (n := 0) (Nat.le_of_ble_eq_true rfl) (Nat.le_of_ble_eq_true rfl) ?_
    have hP := hP.kept (H1 := H1) (fun k q hk => hk1 q.1 (hP k q hk).lt (fun h => h))
    clear hz1 hk1 hB ht hvm t9
    generalize H1 = H at hP hS ⊢
    have hP : va_P (dC, dI) vwCl [(m0, .inr (4, [.ref m1, .ref m2, .int (nI bk), .ref m3, .ref m4, .ref m5, .ref m6, .int sd, .ref m7, .ref m8, .int cl, .int pc, .int op])), (m1, .inl (km1, 93, .inl nw))] H := hP
    have wr_4 := hw
    clear hw
    refine lv_if_ne (tgt := 23) hx hb dX4_lawAt_17 (by decide) (fun c_17 => ?_) (fun c_17 => ?_)
    · obtain ⟨j_5, hj_5, rfl⟩ := rg_0 (by decide) (b_1 wr_4 c_17)
      refine lv_iload_n hx hb dX4_lawAt_23 rfl (lv_at hl 2 rfl) ?_
      refine lv_iconst (v := nI 5) hx hb dX4_lawAt_24 (by decide) ?_
      refine lv_icmp_ne (tgt := 66) hx hb dX4_lawAt_25 (by decide) (fun c_25 => ?_) (fun c_25 => ?_)
      · have c_25 := (not_congr (nI_eq (by omega : j_5 < 2 ^ 31) (by omega : 5 < 2 ^ 31))).mp c_25
        refine lv_aload_n hx hb dX4_lawAt_66 rfl (lv_at hl 0 rfl) ?_
        refine va_get (D := (dC, dI)) (ci := 4) (v := .ref m1) (C := RX4) (T := TX4) (N := 13) hx hb hts inX4 hown hK hP 0 rfl rfl 0 (by decide) (hts (.fieldLink RX4 7 "StoreSlopesModel" "now" "[I") (List.mem_of_getElem? (i := 3) rfl)) (fun _ h9 => h9) rfl dX4_lawAt_67 ?_
        refine lv_bipush (v := nI 8) hx hb dX4_lawAt_70 (by decide) ?_
        refine lv_iconst (v := nI 5) hx hb dX4_lawAt_72 (by decide) ?_
        refine lv_iload_n hx hb dX4_lawAt_73 rfl (lv_at hl 1 rfl) ?_
        refine lv_imul hx hb dX4_lawAt_74 ?_
        refine tp_as (pk_mul 5 j_2) ?_
        refine lv_iadd hx hb dX4_lawAt_75 ?_
        refine tp_as (nI_add 8 (5 * j_2)) ?_
        refine lv_iload_n hx hb dX4_lawAt_76 rfl (lv_at hl 2 rfl) ?_
        refine lv_iadd hx hb dX4_lawAt_77 ?_
        refine tp_as (nI_add (8 + (5 * j_2)) j_5) ?_
        refine va_iald hx hb hK hP 1 0 rfl rfl (vp_in_nI (show (8 + (5 * j_2)) + j_5 < 93 by omega) (by omega)) dX4_lawAt_78 ?_
        refine tp_any (fun y_6 => ?_)
        refine lv_iload_n hx hb dX4_lawAt_79 rfl (lv_at hl 2 rfl) ?_
        refine lv_iconst (v := nI 3) hx hb dX4_lawAt_80 (by decide) ?_
        refine lv_icmp_ne (tgt := 89) hx hb dX4_lawAt_81 (by decide) (fun c_81 => ?_) (fun c_81 => ?_)
        · have c_81 := (not_congr (nI_eq (by omega : j_5 < 2 ^ 31) (by omega : 3 < 2 ^ 31))).mp c_81
          refine lv_iload_n hx hb dX4_lawAt_89 rfl (lv_at hl 2 rfl) ?_
          refine lv_iconst (v := nI 4) hx hb dX4_lawAt_90 (by decide) ?_
          refine lv_icmp_ne (tgt := 99) hx hb dX4_lawAt_91 (by decide) (fun c_91 => ?_) (fun c_91 => ?_)
          · have c_91 := (not_congr (nI_eq (by omega : j_5 < 2 ^ 31) (by omega : 4 < 2 ^ 31))).mp c_91
            refine lv_iconst (v := nI 0) hx hb dX4_lawAt_99 (by decide) ?_
            refine lv_iadd hx hb dX4_lawAt_100 ?_
            refine tp_any (fun y_7 => ?_)
            subst hQe
            exact W.iret (v := y_7) hx hb hr (fun t ht hW => ⟨⟨_, (), rfl, trivial, trivial⟩, hS.F ht⟩) hS.2.2 dX4_lawAt_101
          · have c_91 := (nI_eq (by omega : j_5 < 2 ^ 31) (by omega : 4 < 2 ^ 31)).mp c_91
            refine lv_bipush (v := nI 10) hx hb dX4_lawAt_94 (by decide) ?_
            refine lv_goto (tgt := 100) hx hb dX4_lawAt_96 (by decide) ?_
            refine lv_iadd hx hb dX4_lawAt_100 ?_
            refine tp_any (fun y_8 => ?_)
            subst hQe
            exact W.iret (v := y_8) hx hb hr (fun t ht hW => ⟨⟨_, (), rfl, trivial, trivial⟩, hS.F ht⟩) hS.2.2 dX4_lawAt_101
        · have c_81 := (nI_eq (by omega : j_5 < 2 ^ 31) (by omega : 3 < 2 ^ 31)).mp c_81
          refine lv_bipush (v := nI 100) hx hb dX4_lawAt_84 (by decide) ?_
          refine lv_goto (tgt := 100) hx hb dX4_lawAt_86 (by decide) ?_
          refine lv_iadd hx hb dX4_lawAt_100 ?_
          refine tp_any (fun y_9 => ?_)
          subst hQe
          exact W.iret (v := y_9) hx hb hr (fun t ht hW => ⟨⟨_, (), rfl, trivial, trivial⟩, hS.F ht⟩) hS.2.2 dX4_lawAt_101
      · have c_25 := (nI_eq (by omega : j_5 < 2 ^ 31) (by omega : 5 < 2 ^ 31)).mp c_25
        refine lv_iconst (v := nI 0) hx hb dX4_lawAt_28 (by decide) ?_
        refine lv_istore_n (lv' := [(3, .int (nI 0)), (0, .ref m0), (1, .int (nI j_2)), (2, .int (nI j_5))]) hx hb dX4_lawAt_29 rfl hl (by decide) rfl (fun ls hl => ?_)
        refine lv_iconst (v := nI 0) hx hb dX4_lawAt_30 (by decide) ?_
        refine lv_istore (lv' := [(4, .int (nI 0)), (3, .int (nI 0)), (0, .ref m0), (1, .int (nI j_2)), (2, .int (nI j_5))]) hx hb dX4_lawAt_31 hl (by decide) rfl (fun ls hl => ?_)
        have L33 : ∀ (n : Nat) (i : Nat) (q : Int32) (H : Heap) (locs : List Loc) (ls : Array Slot), i ≤ 24 → 24 - i < n → va_P (dC, dI) vwCl [(m0, .inr (4, [.ref m1, .ref m2, .int (nI bk), .ref m3, .ref m4, .ref m5, .ref m6, .int sd, .ref m7, .ref m8, .int cl, .int pc, .int op])), (m1, .inl (km1, 93, .inl nw))] H → va_S (fun _ => False) s.heap H locs → lv_has ls 5 [(0, .ref m0), (1, .int (nI j_2)), (3, .int q), (4, .int (nI i))] → W p l e (headSpec wsX4_lawAt { frames := 3, cells := 0, slots := 0, locals := 67 }).room s m args below meth c H locs 0 0 Q (F0 m 33 ls []) := by
          intro n
          induction n with
          | zero => intro i q H locs ls hL33_0 hn; exact absurd hn (Nat.not_lt_zero _)
          | succ n ih33 =>
            intro i q H locs ls hL33_0 hn hP hS hl
            refine lv_iload hx hb dX4_lawAt_33 (lv_at hl 3 rfl) ?_
            refine lv_bipush (v := nI 24) hx hb dX4_lawAt_35 (by decide) ?_
            refine lv_icmp_ge (tgt := 64) hx hb dX4_lawAt_37 (by decide) (fun c_37 => ?_) (fun c_37 => ?_)
            · have c_37 := (nI_leI (by omega : 24 < 2 ^ 31) (by omega : i < 2 ^ 31)).mp c_37
              refine lv_iload_n hx hb dX4_lawAt_64 rfl (lv_at hl 2 rfl) ?_
              subst hQe
              exact W.iret (v := q) hx hb hr (fun t ht hW => ⟨⟨_, (), rfl, trivial, trivial⟩, hS.F ht⟩) hS.2.2 dX4_lawAt_65
            · have c_37 := (not_congr (nI_leI (by omega : 24 < 2 ^ 31) (by omega : i < 2 ^ 31))).mp c_37
              refine lv_iload_n hx hb dX4_lawAt_40 rfl (lv_at hl 2 rfl) ?_
              refine lv_aload_n hx hb dX4_lawAt_41 rfl (lv_at hl 0 rfl) ?_
              refine lv_iload hx hb dX4_lawAt_42 (lv_at hl 3 rfl) ?_
              have hPc := hP.sub (ws' := [(m0, .inr (4, [.ref m1, .ref m2, .int (nI bk), .ref m3, .ref m4, .ref m5, .ref m6, .int sd, .ref m7, .ref m8, .int cl, .int pc, .int op])), (m1, .inl (km1, 93, .inl nw))]) [0, 1] rfl
              have hKc := hK.sub (tys' := [(km1, .int)]) [0] rfl
              refine va_calli (va_runV (As := [.int (nI i)]) (rest := [.int q]) ⟨hx, hb, hml, hown, hts⟩ (c_X4_lawOf l dC dI m0 m1 m2 m3 m4 m5 m6 m7 m8 km1 bk sd cl pc op nw (nI i) (by first | assumption | omega) (by first | assumption | omega) ) (cwV 1 hts gX4_lawAt_X4_lawOf rfl rfl rfl (by decide +kernel) ⟨Nat.le_of_ble_eq_true rfl, Nat.le_of_ble_eq_true rfl⟩) ⟨fun a U g mk q => by obtain ⟨q0, qP, qK⟩ := q; exact ⟨q0, qP, va_K.moved (u := U) (U := U.calling g mk a) (Vm.Alike.refl U.vm) qK⟩, va_recv hKc hPc (ci := 4) (q0 := 0) rfl rfl, fun U hU hW => ⟨rfl, by rw [hU]; exact hPc, va_K.moved hW.alike hKc⟩⟩ rfl rfl hl.1 rfl (lv_room (Nat.le_of_ble_eq_true rfl)) dX4_lawAt_44 ⟨Nat.le_of_ble_eq_true rfl, Nat.le_of_ble_eq_true rfl⟩) hS (fun q _ h => h.elim) (fun q h => h.elim) (fun r_10 u9 t9 H1 locs ht hvm hw hB hz1 hk1 hS => ?_)
              refine W.widen (k := 0) (n := 0) (Nat.le_of_ble_eq_true rfl) (Nat.le_of_ble_eq_true rfl) ?_
              have hP := hP.kept (H1 := H1) (fun k q hk => hk1 q.1 (hP k q hk).lt (fun h => h))
              clear hz1 hk1 hB ht hvm t9
              generalize H1 = H at hP hS ⊢
              have hP : va_P (dC, dI) vwCl [(m0, .inr (4, [.ref m1, .ref m2, .int (nI bk), .ref m3, .ref m4, .ref m5, .ref m6, .int sd, .ref m7, .ref m8, .int cl, .int pc, .int op])), (m1, .inl (km1, 93, .inl nw))] H := hP
              clear hw
              refine lv_iload_n hx hb dX4_lawAt_47 rfl (lv_at hl 1 rfl) ?_
              refine lv_icmp_ne (tgt := 55) hx hb dX4_lawAt_48 (by decide) (fun c_48 => ?_) (fun c_48 => ?_)
              · refine lv_iconst (v := nI 0) hx hb dX4_lawAt_55 (by decide) ?_
                refine lv_iadd hx hb dX4_lawAt_56 ?_
                refine tp_any (fun y_11 => ?_)
                refine lv_istore_n (lv' := [(3, .int y_11), (0, .ref m0), (1, .int (nI j_2)), (4, .int (nI i))]) hx hb dX4_lawAt_57 rfl hl (by decide) rfl (fun ls hl => ?_)
                refine lv_iinc (v := nI (i + 1)) (lv' := [(4, .int (nI (i + 1))), (3, .int y_11), (0, .ref m0), (1, .int (nI j_2))]) hx hb dX4_lawAt_58 hl (k := 3) rfl (inc_n i 1) (by decide) rfl (fun ls hl => ?_)
                refine lv_goto (tgt := 33) hx hb dX4_lawAt_61 (by decide) ?_
                exact ih33 (i + 1) y_11 _ _ _ (by first | assumption | omega) (by omega) hP hS (lv_sub hl [2, 3, 1, 0] rfl)
              · refine lv_iconst (v := nI 1) hx hb dX4_lawAt_51 (by decide) ?_
                refine lv_goto (tgt := 56) hx hb dX4_lawAt_52 (by decide) ?_
                refine lv_iadd hx hb dX4_lawAt_56 ?_
                refine tp_any (fun y_12 => ?_)
                refine lv_istore_n (lv' := [(3, .int y_12), (0, .ref m0), (1, .int (nI j_2)), (4, .int (nI i))]) hx hb dX4_lawAt_57 rfl hl (by decide) rfl (fun ls hl => ?_)
                refine lv_iinc (v := nI (i + 1)) (lv' := [(4, .int (nI (i + 1))), (3, .int y_12), (0, .ref m0), (1, .int (nI j_2))]) hx hb dX4_lawAt_58 hl (k := 3) rfl (inc_n i 1) (by decide) rfl (fun ls hl => ?_)
                refine lv_goto (tgt := 33) hx hb dX4_lawAt_61 (by decide) ?_
                exact ih33 (i + 1) y_12 _ _ _ (by first | assumption | omega) (by omega) hP hS (lv_sub hl [2, 3, 1, 0] rfl)
        exact L33 (24 - 0 + 1) 0 (nI 0) _ _ _ (by first | assumption | omega) (Nat.lt_succ_self _) hP hS (lv_sub hl [2, 3, 1, 0] rfl)
    · have nc_17 := b_0 wr_4 c_17
      refine lv_ldc (own := RX4) (v := (-1000000002)) hx hb hown (hts (.constant RX4 110 (-1000000002)) (List.mem_of_getElem? (i := 2) rfl)) dX4_lawAt_20 ?_
      subst hQe
      exact W.iret (v := ((-1000000002))) hx hb hr (fun t ht hW => ⟨⟨_, (), rfl, trivial, trivial⟩, hS.F ht⟩) hS.2.2 dX4_lawAt_22
  · refine lv_ldc (own := RX4) (v := (-1000000001)) hx hb hown (hts (.constant RX4 109 (-1000000001)) (List.mem_of_getElem? (i := 1) rfl)) dX4_lawAt_8 ?_
    subst hQe
    exact W.iret (v := ((-1000000001))) hx hb hr (fun t ht hW => ⟨⟨_, (), rfl, trivial, trivial⟩, hS.F ht⟩) hS.2.2 dX4_lawAt_10
