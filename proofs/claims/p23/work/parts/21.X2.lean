set_option maxHeartbeats 4000000 in
set_option maxRecDepth 100000 in
theorem c_X2_lawPart (l : Launch) (dC : Nat → ClassId) (dI : Nat → Nat → Nat) (s0 s1 s2 : Nat) (ks1 ks2 : ClassId) (ov : Nat) (st : Nat) (tk : Nat) (gv : Nat) (hc : Int32) (ew : Int32) (sl : Int32) (ca : Int32) (lc : Nat) (rm : Nat → Int32) (lw : Nat → Int32) (k : Nat) (pt : Nat) (i0 : ov ≤ 24) (i1 : st ≤ 60) (i2 : tk ≤ 9) (i3 : gv ≤ 9) (i4 : lc ≤ 12) (i5 : bdA 60 24 rm) (g0 : k < 12) (g1 : pt < 5) : Met l yX2_lawPart wsX2_lawPart ({ frames := 0, cells := 0, slots := 0, locals := 0 }) (va_Pc [.ref s0, .int (nI k), .int (nI pt)] (fun U => va_P (dC, dI) vwCl [(s0, .inr (2, [.int (nI ov), .int (nI st), .int (nI tk), .int (nI gv), .int hc, .int ew, .int sl, .int ca, .int (nI lc), .ref s1, .ref s2])), (s1, .inl (ks1, 24, .inl rm)), (s2, .inl (ks2, 60, .inl lw))] U.heap ∧ va_K (dC, dI) vwCl [(ks1, .int), (ks2, .int)] U)) (va_Qi (fun r (_ : Unit) => True) (fun _ _ => True) (fun _ => False)) 0 0 (fun _ => False) := by
  refine Met.ofW (cc := cX2_lawPart) (maxL := 3) (ret := (some .int)) (by decide) rfl ?_
  intro p e s m args below meth c s₁ B hml hv
  obtain ⟨rfl, hP, hK⟩ := hv
  have hx := B.exec
  have hb := B.bytes
  have hr := B.returns
  have hts := atoms_spec (ws := wsX2_lawPart) B.pre
  have hown : s.vm.findClass RX2 = some m.cls := findClass_of_methodNamed B.named
  have hlocks := B.notSynchronized
  have inX2 : ∀ w ∈ wsX20, w ∈ wsX2_lawPart := fun _ h => List.mem_cons_of_mem _ (List.mem_append_right _ h)
  have hS : va_S (fun _ => False) s.heap s.heap [] := va_S.rf
  have hl := lv_entry ([.ref s0, .int (nI k), .int (nI pt)]) (n := 3) (Nat.le_of_ble_eq_true rfl)
  rw [lg_entry_eq]
  generalize (lg_sl ([.ref s0, .int (nI k), .int (nI pt)]) ++ List.replicate (3 - (lg_sl ([.ref s0, .int (nI k), .int (nI pt)])).length) Slot.unset).toArray = ls at hl ⊢
  generalize hQe : MQ below _ _ s 0 0 _ = Q
  generalize ([.ref s0, .int (nI k), .int (nI pt)] : List Value).toArray = args at hts hQe ⊢
  have hl : lv_has ls 3 [(0, .ref s0), (1, .int (nI k)), (2, .int (nI pt))] := hl
  refine lv_aload_n hx hb dX2_lawPart_0 rfl (lv_at hl 0 rfl) ?_
  refine va_get (D := (dC, dI)) (ci := 2) (v := .ref s2) (C := RX2) (T := TX2) (N := 11) hx hb hts inX2 hown hK hP 0 rfl rfl 10 (by decide) (hts (.fieldLink RX2 22 "StoreSlopes$State" "laws" "[I") (List.mem_of_getElem? (i := 1) rfl)) (fun _ h9 => h9) rfl dX2_lawPart_1 ?_
  refine lv_iload_n hx hb dX2_lawPart_4 rfl (lv_at hl 1 rfl) ?_
  refine lv_iconst (v := nI 5) hx hb dX2_lawPart_5 (by decide) ?_
  refine lv_imul hx hb dX2_lawPart_6 ?_
  refine tp_as (pk_mul k 5) ?_
  refine lv_iload_n hx hb dX2_lawPart_7 rfl (lv_at hl 2 rfl) ?_
  refine lv_iadd hx hb dX2_lawPart_8 ?_
  refine tp_as (nI_add (k * 5) pt) ?_
  refine va_iald hx hb hK hP 2 1 rfl rfl (vp_in_nI (show k * 5 + pt < 60 by omega) (by omega)) dX2_lawPart_9 ?_
  refine tp_any (fun y_1 => ?_)
  subst hQe
  exact W.iret (v := y_1) hx hb hr (fun t ht hW => ⟨⟨_, (), rfl, trivial, trivial⟩, hS.F ht⟩) hS.2.2 dX2_lawPart_10
set_option maxHeartbeats 4000000 in
set_option maxRecDepth 100000 in
theorem c_X2_lawHas (l : Launch) (dC : Nat → ClassId) (dI : Nat → Nat → Nat) (s0 s1 s2 : Nat) (ks1 ks2 : ClassId) (ov : Nat) (st : Nat) (tk : Nat) (gv : Nat) (hc : Int32) (ew : Int32) (sl : Int32) (ca : Int32) (lc : Nat) (rm : Nat → Int32) (lw : Nat → Int32) (k : Nat) (h : Int32) (i0 : ov ≤ 24) (i1 : st ≤ 60) (i2 : tk ≤ 9) (i3 : gv ≤ 9) (i4 : lc ≤ 12) (i5 : bdA 60 24 rm) (g0 : k < 12) : Met l yX2_lawHas wsX2_lawHas ({ frames := 1, cells := 0, slots := 0, locals := 22 }) (va_Pc [.ref s0, .int (nI k), .int h] (fun U => va_P (dC, dI) vwCl [(s0, .inr (2, [.int (nI ov), .int (nI st), .int (nI tk), .int (nI gv), .int hc, .int ew, .int sl, .int ca, .int (nI lc), .ref s1, .ref s2])), (s1, .inl (ks1, 24, .inl rm)), (s2, .inl (ks2, 60, .inl lw))] U.heap ∧ va_K (dC, dI) vwCl [(ks1, .int), (ks2, .int)] U)) (va_Qi (fun r (_ : Unit) => True) (fun _ _ => True) (fun _ => False)) 0 0 (fun _ => False) := by
  refine Met.ofW (cc := cX2_lawHas) (maxL := 3) (ret := (some .boolean)) (by decide) rfl ?_
  intro p e s m args below meth c s₁ B hml hv
  obtain ⟨rfl, hP, hK⟩ := hv
  have hx := B.exec
  have hb := B.bytes
  have hr := B.returns
  have hts := atoms_spec (ws := wsX2_lawHas) B.pre
  have hown : s.vm.findClass RX2 = some m.cls := findClass_of_methodNamed B.named
  have hlocks := B.notSynchronized
  have inX2 : ∀ w ∈ wsX20, w ∈ wsX2_lawHas := fun _ h => List.mem_cons_of_mem _ (List.mem_append_right _ h)
  have hS : va_S (fun _ => False) s.heap s.heap [] := va_S.rf
  have hl := lv_entry ([.ref s0, .int (nI k), .int h]) (n := 3) (Nat.le_of_ble_eq_true rfl)
  rw [lg_entry_eq]
  generalize (lg_sl ([.ref s0, .int (nI k), .int h]) ++ List.replicate (3 - (lg_sl ([.ref s0, .int (nI k), .int h])).length) Slot.unset).toArray = ls at hl ⊢
  generalize hQe : MQ below _ _ s 0 0 _ = Q
  generalize ([.ref s0, .int (nI k), .int h] : List Value).toArray = args at hts hQe ⊢
  have hl : lv_has ls 3 [(0, .ref s0), (1, .int (nI k)), (2, .int h)] := hl
  refine lv_aload_n hx hb dX2_lawHas_0 rfl (lv_at hl 0 rfl) ?_
  refine lv_iload_n hx hb dX2_lawHas_1 rfl (lv_at hl 1 rfl) ?_
  refine lv_iconst (v := nI 0) hx hb dX2_lawHas_2 (by decide) ?_
  have hPc := hP.sub (ws' := [(s0, .inr (2, [.int (nI ov), .int (nI st), .int (nI tk), .int (nI gv), .int hc, .int ew, .int sl, .int ca, .int (nI lc), .ref s1, .ref s2])), (s1, .inl (ks1, 24, .inl rm)), (s2, .inl (ks2, 60, .inl lw))]) [0, 1, 2] rfl
  have hKc := hK.sub (tys' := [(ks1, .int), (ks2, .int)]) [0, 1] rfl
  refine va_calli (va_runV (As := [.int (nI k), .int (nI 0)]) (rest := []) ⟨hx, hb, hml, hown, hts⟩ (c_X2_lawPart l dC dI s0 s1 s2 ks1 ks2 ov st tk gv hc ew sl ca lc rm lw k 0 (by first | assumption | omega) (by first | assumption | omega) (by first | assumption | omega) (by first | assumption | omega) (by first | assumption | omega) (by first | assumption | omega) (by first | assumption | omega) (by first | assumption | omega)) (cwV 2 hts gX2_lawHas_X2_lawPart rfl rfl rfl (by decide +kernel) ⟨Nat.le_of_ble_eq_true rfl, Nat.le_of_ble_eq_true rfl⟩) ⟨fun a U g mk q => by obtain ⟨q0, qP, qK⟩ := q; exact ⟨q0, qP, va_K.moved (u := U) (U := U.calling g mk a) (Vm.Alike.refl U.vm) qK⟩, va_recv hKc hPc (ci := 2) (q0 := 0) rfl rfl, fun U hU hW => ⟨rfl, by rw [hU]; exact hPc, va_K.moved hW.alike hKc⟩⟩ rfl rfl hl.1 rfl (lv_room (Nat.le_of_ble_eq_true rfl)) dX2_lawHas_3 ⟨Nat.le_of_ble_eq_true rfl, Nat.le_of_ble_eq_true rfl⟩) hS (fun q _ h => h.elim) (fun q h => h.elim) (fun r_1 u t H1 locs ht hvm hw hB hz1 hk1 hS => ?_)
  refine W.widen (k := 0) (n := 0) (Nat.le_of_ble_eq_true rfl) (Nat.le_of_ble_eq_true rfl) ?_
  have hP := hP.kept (H1 := H1) (fun k q hk => hk1 q.1 (hP k q hk).lt (fun h => h))
  clear hz1 hk1 hB ht hvm t
  generalize H1 = H at hP hS ⊢
  have hP : va_P (dC, dI) vwCl [(s0, .inr (2, [.int (nI ov), .int (nI st), .int (nI tk), .int (nI gv), .int hc, .int ew, .int sl, .int ca, .int (nI lc), .ref s1, .ref s2])), (s1, .inl (ks1, 24, .inl rm)), (s2, .inl (ks2, 60, .inl lw))] H := hP
  clear hw
  refine lv_iload_n hx hb dX2_lawHas_6 rfl (lv_at hl 2 rfl) ?_
  refine lv_icmp_gt (tgt := 24) hx hb dX2_lawHas_7 (by decide) (fun c_7 => ?_) (fun c_7 => ?_)
  · refine lv_iconst (v := nI 0) hx hb dX2_lawHas_24 (by decide) ?_
    subst hQe
    exact W.zret (v := (nI 0)) hx hb hr (by decide) (fun t ht hW => ⟨⟨_, (), rfl, trivial, trivial⟩, hS.F ht⟩) hS.2.2 dX2_lawHas_25
  · refine lv_iload_n hx hb dX2_lawHas_10 rfl (lv_at hl 2 rfl) ?_
    refine lv_aload_n hx hb dX2_lawHas_11 rfl (lv_at hl 0 rfl) ?_
    refine lv_iload_n hx hb dX2_lawHas_12 rfl (lv_at hl 1 rfl) ?_
    refine lv_iconst (v := nI 1) hx hb dX2_lawHas_13 (by decide) ?_
    have hPc := hP.sub (ws' := [(s0, .inr (2, [.int (nI ov), .int (nI st), .int (nI tk), .int (nI gv), .int hc, .int ew, .int sl, .int ca, .int (nI lc), .ref s1, .ref s2])), (s1, .inl (ks1, 24, .inl rm)), (s2, .inl (ks2, 60, .inl lw))]) [0, 1, 2] rfl
    have hKc := hK.sub (tys' := [(ks1, .int), (ks2, .int)]) [0, 1] rfl
    refine va_calli (va_runV (As := [.int (nI k), .int (nI 1)]) (rest := [.int h]) ⟨hx, hb, hml, hown, hts⟩ (c_X2_lawPart l dC dI s0 s1 s2 ks1 ks2 ov st tk gv hc ew sl ca lc rm lw k 1 (by first | assumption | omega) (by first | assumption | omega) (by first | assumption | omega) (by first | assumption | omega) (by first | assumption | omega) (by first | assumption | omega) (by first | assumption | omega) (by first | assumption | omega)) (cwV 2 hts gX2_lawHas_X2_lawPart rfl rfl rfl (by decide +kernel) ⟨Nat.le_of_ble_eq_true rfl, Nat.le_of_ble_eq_true rfl⟩) ⟨fun a U g mk q => by obtain ⟨q0, qP, qK⟩ := q; exact ⟨q0, qP, va_K.moved (u := U) (U := U.calling g mk a) (Vm.Alike.refl U.vm) qK⟩, va_recv hKc hPc (ci := 2) (q0 := 0) rfl rfl, fun U hU hW => ⟨rfl, by rw [hU]; exact hPc, va_K.moved hW.alike hKc⟩⟩ rfl rfl hl.1 rfl (lv_room (Nat.le_of_ble_eq_true rfl)) dX2_lawHas_14 ⟨Nat.le_of_ble_eq_true rfl, Nat.le_of_ble_eq_true rfl⟩) hS (fun q _ h => h.elim) (fun q h => h.elim) (fun r_2 u t H1 locs ht hvm hw hB hz1 hk1 hS => ?_)
    refine W.widen (k := 0) (n := 0) (Nat.le_of_ble_eq_true rfl) (Nat.le_of_ble_eq_true rfl) ?_
    have hP := hP.kept (H1 := H1) (fun k q hk => hk1 q.1 (hP k q hk).lt (fun h => h))
    clear hz1 hk1 hB ht hvm t
    generalize H1 = H at hP hS ⊢
    have hP : va_P (dC, dI) vwCl [(s0, .inr (2, [.int (nI ov), .int (nI st), .int (nI tk), .int (nI gv), .int hc, .int ew, .int sl, .int ca, .int (nI lc), .ref s1, .ref s2])), (s1, .inl (ks1, 24, .inl rm)), (s2, .inl (ks2, 60, .inl lw))] H := hP
    clear hw
    refine lv_icmp_gt (tgt := 24) hx hb dX2_lawHas_17 (by decide) (fun c_17 => ?_) (fun c_17 => ?_)
    · refine lv_iconst (v := nI 0) hx hb dX2_lawHas_24 (by decide) ?_
      subst hQe
      exact W.zret (v := (nI 0)) hx hb hr (by decide) (fun t ht hW => ⟨⟨_, (), rfl, trivial, trivial⟩, hS.F ht⟩) hS.2.2 dX2_lawHas_25
    · refine lv_iconst (v := nI 1) hx hb dX2_lawHas_20 (by decide) ?_
      refine lv_goto (tgt := 25) hx hb dX2_lawHas_21 (by decide) ?_
      subst hQe
      exact W.zret (v := (nI 1)) hx hb hr (by decide) (fun t ht hW => ⟨⟨_, (), rfl, trivial, trivial⟩, hS.F ht⟩) hS.2.2 dX2_lawHas_25
set_option maxHeartbeats 4000000 in
set_option maxRecDepth 100000 in
theorem c_X2_latestLawOf (l : Launch) (dC : Nat → ClassId) (dI : Nat → Nat → Nat) (s0 s1 s2 : Nat) (ks1 ks2 : ClassId) (ov : Nat) (st : Nat) (tk : Nat) (gv : Nat) (hc : Int32) (ew : Int32) (sl : Int32) (ca : Int32) (lc : Nat) (rm : Nat → Int32) (lw : Nat → Int32) (h : Int32) (i0 : ov ≤ 24) (i1 : st ≤ 60) (i2 : tk ≤ 9) (i3 : gv ≤ 9) (i4 : lc ≤ 12) (i5 : bdA 60 24 rm) : Met l yX2_latestLawOf wsX2_latestLawOf ({ frames := 2, cells := 0, slots := 0, locals := 44 }) (va_Pc [.ref s0, .int h] (fun U => va_P (dC, dI) vwCl [(s0, .inr (2, [.int (nI ov), .int (nI st), .int (nI tk), .int (nI gv), .int hc, .int ew, .int sl, .int ca, .int (nI lc), .ref s1, .ref s2])), (s1, .inl (ks1, 24, .inl rm)), (s2, .inl (ks2, 60, .inl lw))] U.heap ∧ va_K (dC, dI) vwCl [(ks1, .int), (ks2, .int)] U)) (va_Qi (fun r (_ : Unit) => True) (fun _ _ => True) (fun _ => False)) 0 0 (fun _ => False) := by
  refine Met.ofW (cc := cX2_latestLawOf) (maxL := 3) (ret := (some .int)) (by decide) rfl ?_
  intro p e s m args below meth c s₁ B hml hv
  obtain ⟨rfl, hP, hK⟩ := hv
  have hx := B.exec
  have hb := B.bytes
  have hr := B.returns
  have hts := atoms_spec (ws := wsX2_latestLawOf) B.pre
  have hown : s.vm.findClass RX2 = some m.cls := findClass_of_methodNamed B.named
  have hlocks := B.notSynchronized
  have inX2 : ∀ w ∈ wsX20, w ∈ wsX2_latestLawOf := fun _ h => List.mem_cons_of_mem _ (List.mem_append_right _ h)
  have hS : va_S (fun _ => False) s.heap s.heap [] := va_S.rf
  have hl := lv_entry ([.ref s0, .int h]) (n := 3) (Nat.le_of_ble_eq_true rfl)
  rw [lg_entry_eq]
  generalize (lg_sl ([.ref s0, .int h]) ++ List.replicate (3 - (lg_sl ([.ref s0, .int h])).length) Slot.unset).toArray = ls at hl ⊢
  generalize hQe : MQ below _ _ s 0 0 _ = Q
  generalize ([.ref s0, .int h] : List Value).toArray = args at hts hQe ⊢
  have hl : lv_has ls 3 [(0, .ref s0), (1, .int h)] := hl
  refine lv_aload_n hx hb dX2_latestLawOf_0 rfl (lv_at hl 0 rfl) ?_
  refine va_get (D := (dC, dI)) (ci := 2) (v := .int (nI lc)) (C := RX2) (T := TX2) (N := 11) hx hb hts inX2 hown hK hP 0 rfl rfl 8 (by decide) (hts (.fieldLink RX2 29 "StoreSlopes$State" "lawCount" "I") (List.mem_of_getElem? (i := 1) rfl)) (fun _ h9 => h9) rfl dX2_latestLawOf_1 ?_
  refine lv_iconst (v := nI 1) hx hb dX2_latestLawOf_4 (by decide) ?_
  refine lv_isub hx hb dX2_latestLawOf_5 ?_
  refine tp_as (dn_sub lc) ?_
  refine lv_istore_n (lv' := [(2, .int (dn lc)), (0, .ref s0), (1, .int h)]) hx hb dX2_latestLawOf_6 rfl hl (by decide) rfl (fun ls hl => ?_)
  have L7 : ∀ (n : Nat) (t : Nat) (H : Heap) (locs : List Loc) (ls : Array Slot), t ≤ lc → t < n → va_P (dC, dI) vwCl [(s0, .inr (2, [.int (nI ov), .int (nI st), .int (nI tk), .int (nI gv), .int hc, .int ew, .int sl, .int ca, .int (nI lc), .ref s1, .ref s2])), (s1, .inl (ks1, 24, .inl rm)), (s2, .inl (ks2, 60, .inl lw))] H → va_S (fun _ => False) s.heap H locs → lv_has ls 3 [(0, .ref s0), (1, .int h), (2, .int (dn t))] → W p l e (headSpec wsX2_latestLawOf { frames := 2, cells := 0, slots := 0, locals := 44 }).room s m args below meth c H locs 0 0 Q (F0 m 7 ls []) := by
    intro n
    induction n with
    | zero => intro t H locs ls hL7_0 hn; exact absurd hn (Nat.not_lt_zero _)
    | succ n ih =>
      intro t H locs ls hL7_0 hn hP hS hl
      refine lv_iload_n hx hb dX2_latestLawOf_7 rfl (lv_at hl 2 rfl) ?_
      refine lv_if_lt (tgt := 28) hx hb dX2_latestLawOf_8 (by decide) (fun c_8 => ?_) (fun c_8 => ?_)
      · refine lv_iconst (v := (-1)) hx hb dX2_latestLawOf_28 (by decide) ?_
        subst hQe
        exact W.iret (v := ((-1))) hx hb hr (fun t ht hW => ⟨⟨_, (), rfl, trivial, trivial⟩, hS.F ht⟩) hS.2.2 dX2_latestLawOf_29
      · obtain ⟨k_1, rfl⟩ := dn_pos c_8
        rw [dn_s] at hl
        refine lv_aload_n hx hb dX2_latestLawOf_11 rfl (lv_at hl 0 rfl) ?_
        refine lv_iload_n hx hb dX2_latestLawOf_12 rfl (lv_at hl 2 rfl) ?_
        refine lv_iload_n hx hb dX2_latestLawOf_13 rfl (lv_at hl 1 rfl) ?_
        have hPc := hP.sub (ws' := [(s0, .inr (2, [.int (nI ov), .int (nI st), .int (nI tk), .int (nI gv), .int hc, .int ew, .int sl, .int ca, .int (nI lc), .ref s1, .ref s2])), (s1, .inl (ks1, 24, .inl rm)), (s2, .inl (ks2, 60, .inl lw))]) [0, 1, 2] rfl
        have hKc := hK.sub (tys' := [(ks1, .int), (ks2, .int)]) [0, 1] rfl
        refine va_calli (va_runV (As := [.int (nI k_1), .int h]) (rest := []) ⟨hx, hb, hml, hown, hts⟩ (c_X2_lawHas l dC dI s0 s1 s2 ks1 ks2 ov st tk gv hc ew sl ca lc rm lw k_1 h (by first | assumption | omega) (by first | assumption | omega) (by first | assumption | omega) (by first | assumption | omega) (by first | assumption | omega) (by first | assumption | omega) (by first | assumption | omega)) (cwV 2 hts gX2_latestLawOf_X2_lawHas rfl rfl rfl (by decide +kernel) ⟨Nat.le_of_ble_eq_true rfl, Nat.le_of_ble_eq_true rfl⟩) ⟨fun a U g mk q => by obtain ⟨q0, qP, qK⟩ := q; exact ⟨q0, qP, va_K.moved (u := U) (U := U.calling g mk a) (Vm.Alike.refl U.vm) qK⟩, va_recv hKc hPc (ci := 2) (q0 := 0) rfl rfl, fun U hU hW => ⟨rfl, by rw [hU]; exact hPc, va_K.moved hW.alike hKc⟩⟩ rfl rfl hl.1 rfl (lv_room (Nat.le_of_ble_eq_true rfl)) dX2_latestLawOf_14 ⟨Nat.le_of_ble_eq_true rfl, Nat.le_of_ble_eq_true rfl⟩) hS (fun q _ h => h.elim) (fun q h => h.elim) (fun r_2 u t H1 locs ht hvm hw hB hz1 hk1 hS => ?_)
        refine W.widen (k := 0) (n := 0) (Nat.le_of_ble_eq_true rfl) (Nat.le_of_ble_eq_true rfl) ?_
        have hP := hP.kept (H1 := H1) (fun k q hk => hk1 q.1 (hP k q hk).lt (fun h => h))
        clear hz1 hk1 hB ht hvm t
        generalize H1 = H at hP hS ⊢
        have hP : va_P (dC, dI) vwCl [(s0, .inr (2, [.int (nI ov), .int (nI st), .int (nI tk), .int (nI gv), .int hc, .int ew, .int sl, .int ca, .int (nI lc), .ref s1, .ref s2])), (s1, .inl (ks1, 24, .inl rm)), (s2, .inl (ks2, 60, .inl lw))] H := hP
        clear hw
        refine lv_if_eq (tgt := 22) hx hb dX2_latestLawOf_17 (by decide) (fun c_17 => ?_) (fun c_17 => ?_)
        · refine lv_iinc (v := dn k_1) (lv' := [(2, .int (dn k_1)), (0, .ref s0), (1, .int h)]) hx hb dX2_latestLawOf_22 hl (k := 2) rfl rfl (by decide) rfl (fun ls hl => ?_)
          refine lv_goto (tgt := 7) hx hb dX2_latestLawOf_25 (by decide) ?_
          exact ih k_1 _ _ _ (by first | assumption | omega) (by omega) hP hS (lv_sub hl [1, 2, 0] rfl)
        · refine lv_iload_n hx hb dX2_latestLawOf_20 rfl (lv_at hl 2 rfl) ?_
          subst hQe
          exact W.iret (v := (nI k_1)) hx hb hr (fun t ht hW => ⟨⟨_, (), rfl, trivial, trivial⟩, hS.F ht⟩) hS.2.2 dX2_latestLawOf_21
  exact L7 (lc + 1) lc _ _ _ (by first | assumption | omega) (Nat.lt_succ_self _) hP hS (lv_sub hl [1, 2, 0] rfl)
set_option maxHeartbeats 4000000 in
set_option maxRecDepth 100000 in
theorem c_X2_hoursRuledBy (l : Launch) (dC : Nat → ClassId) (dI : Nat → Nat → Nat) (s0 s1 s2 : Nat) (ks1 ks2 : ClassId) (ov : Nat) (st : Nat) (tk : Nat) (gv : Nat) (hc : Int32) (ew : Int32) (sl : Int32) (ca : Int32) (lc : Nat) (rm : Nat → Int32) (lw : Nat → Int32) (k : Int32) (i0 : ov ≤ 24) (i1 : st ≤ 60) (i2 : tk ≤ 9) (i3 : gv ≤ 9) (i4 : lc ≤ 12) (i5 : bdA 60 24 rm) : Met l yX2_hoursRuledBy wsX2_hoursRuledBy ({ frames := 3, cells := 0, slots := 0, locals := 66 }) (va_Pc [.ref s0, .int k] (fun U => va_P (dC, dI) vwCl [(s0, .inr (2, [.int (nI ov), .int (nI st), .int (nI tk), .int (nI gv), .int hc, .int ew, .int sl, .int ca, .int (nI lc), .ref s1, .ref s2])), (s1, .inl (ks1, 24, .inl rm)), (s2, .inl (ks2, 60, .inl lw))] U.heap ∧ va_K (dC, dI) vwCl [(ks1, .int), (ks2, .int)] U)) (va_Qi (fun r (_ : Unit) => True) (fun _ _ => True) (fun _ => False)) 0 0 (fun _ => False) := by
  refine Met.ofW (cc := cX2_hoursRuledBy) (maxL := 4) (ret := (some .int)) (by decide) rfl ?_
  intro p e s m args below meth c s₁ B hml hv
  obtain ⟨rfl, hP, hK⟩ := hv
  have hx := B.exec
  have hb := B.bytes
  have hr := B.returns
  have hts := atoms_spec (ws := wsX2_hoursRuledBy) B.pre
  have hown : s.vm.findClass RX2 = some m.cls := findClass_of_methodNamed B.named
  have hlocks := B.notSynchronized
  have inX2 : ∀ w ∈ wsX20, w ∈ wsX2_hoursRuledBy := fun _ h => List.mem_cons_of_mem _ (List.mem_append_right _ h)
  have hS : va_S (fun _ => False) s.heap s.heap [] := va_S.rf
  have hl := lv_entry ([.ref s0, .int k]) (n := 4) (Nat.le_of_ble_eq_true rfl)
  rw [lg_entry_eq]
  generalize (lg_sl ([.ref s0, .int k]) ++ List.replicate (4 - (lg_sl ([.ref s0, .int k])).length) Slot.unset).toArray = ls at hl ⊢
  generalize hQe : MQ below _ _ s 0 0 _ = Q
  generalize ([.ref s0, .int k] : List Value).toArray = args at hts hQe ⊢
  have hl : lv_has ls 4 [(0, .ref s0), (1, .int k)] := hl
  refine lv_iconst (v := nI 0) hx hb dX2_hoursRuledBy_0 (by decide) ?_
  refine lv_istore_n (lv' := [(2, .int (nI 0)), (0, .ref s0), (1, .int k)]) hx hb dX2_hoursRuledBy_1 rfl hl (by decide) rfl (fun ls hl => ?_)
  refine lv_iconst (v := nI 0) hx hb dX2_hoursRuledBy_2 (by decide) ?_
  refine lv_istore_n (lv' := [(3, .int (nI 0)), (2, .int (nI 0)), (0, .ref s0), (1, .int k)]) hx hb dX2_hoursRuledBy_3 rfl hl (by decide) rfl (fun ls hl => ?_)
  have L4 : ∀ (n : Nat) (i : Nat) (q : Int32) (H : Heap) (locs : List Loc) (ls : Array Slot), i ≤ 24 → 24 - i < n → va_P (dC, dI) vwCl [(s0, .inr (2, [.int (nI ov), .int (nI st), .int (nI tk), .int (nI gv), .int hc, .int ew, .int sl, .int ca, .int (nI lc), .ref s1, .ref s2])), (s1, .inl (ks1, 24, .inl rm)), (s2, .inl (ks2, 60, .inl lw))] H → va_S (fun _ => False) s.heap H locs → lv_has ls 4 [(0, .ref s0), (1, .int k), (2, .int q), (3, .int (nI i))] → W p l e (headSpec wsX2_hoursRuledBy { frames := 3, cells := 0, slots := 0, locals := 66 }).room s m args below meth c H locs 0 0 Q (F0 m 4 ls []) := by
    intro n
    induction n with
    | zero => intro i q H locs ls hL4_0 hn; exact absurd hn (Nat.not_lt_zero _)
    | succ n ih =>
      intro i q H locs ls hL4_0 hn hP hS hl
      refine lv_iload_n hx hb dX2_hoursRuledBy_4 rfl (lv_at hl 3 rfl) ?_
      refine lv_bipush (v := nI 24) hx hb dX2_hoursRuledBy_5 (by decide) ?_
      refine lv_icmp_ge (tgt := 28) hx hb dX2_hoursRuledBy_7 (by decide) (fun c_7 => ?_) (fun c_7 => ?_)
      · have c_7 := (nI_leI (by omega : 24 < 2 ^ 31) (by omega : i < 2 ^ 31)).mp c_7
        refine lv_iload_n hx hb dX2_hoursRuledBy_28 rfl (lv_at hl 2 rfl) ?_
        subst hQe
        exact W.iret (v := q) hx hb hr (fun t ht hW => ⟨⟨_, (), rfl, trivial, trivial⟩, hS.F ht⟩) hS.2.2 dX2_hoursRuledBy_29
      · have c_7 := (not_congr (nI_leI (by omega : 24 < 2 ^ 31) (by omega : i < 2 ^ 31))).mp c_7
        refine lv_aload_n hx hb dX2_hoursRuledBy_10 rfl (lv_at hl 0 rfl) ?_
        refine lv_iload_n hx hb dX2_hoursRuledBy_11 rfl (lv_at hl 3 rfl) ?_
        have hPc := hP.sub (ws' := [(s0, .inr (2, [.int (nI ov), .int (nI st), .int (nI tk), .int (nI gv), .int hc, .int ew, .int sl, .int ca, .int (nI lc), .ref s1, .ref s2])), (s1, .inl (ks1, 24, .inl rm)), (s2, .inl (ks2, 60, .inl lw))]) [0, 1, 2] rfl
        have hKc := hK.sub (tys' := [(ks1, .int), (ks2, .int)]) [0, 1] rfl
        refine va_calli (va_runV (As := [.int (nI i)]) (rest := []) ⟨hx, hb, hml, hown, hts⟩ (c_X2_latestLawOf l dC dI s0 s1 s2 ks1 ks2 ov st tk gv hc ew sl ca lc rm lw (nI i) (by first | assumption | omega) (by first | assumption | omega) (by first | assumption | omega) (by first | assumption | omega) (by first | assumption | omega) (by first | assumption | omega) ) (cwV 1 hts gX2_hoursRuledBy_X2_latestLawOf rfl rfl rfl (by decide +kernel) ⟨Nat.le_of_ble_eq_true rfl, Nat.le_of_ble_eq_true rfl⟩) ⟨fun a U g mk q => by obtain ⟨q0, qP, qK⟩ := q; exact ⟨q0, qP, va_K.moved (u := U) (U := U.calling g mk a) (Vm.Alike.refl U.vm) qK⟩, va_recv hKc hPc (ci := 2) (q0 := 0) rfl rfl, fun U hU hW => ⟨rfl, by rw [hU]; exact hPc, va_K.moved hW.alike hKc⟩⟩ rfl rfl hl.1 rfl (lv_room (Nat.le_of_ble_eq_true rfl)) dX2_hoursRuledBy_12 ⟨Nat.le_of_ble_eq_true rfl, Nat.le_of_ble_eq_true rfl⟩) hS (fun q _ h => h.elim) (fun q h => h.elim) (fun r_1 u t H1 locs ht hvm hw hB hz1 hk1 hS => ?_)
        refine W.widen (k := 0) (n := 0) (Nat.le_of_ble_eq_true rfl) (Nat.le_of_ble_eq_true rfl) ?_
        have hP := hP.kept (H1 := H1) (fun k q hk => hk1 q.1 (hP k q hk).lt (fun h => h))
        clear hz1 hk1 hB ht hvm t
        generalize H1 = H at hP hS ⊢
        have hP : va_P (dC, dI) vwCl [(s0, .inr (2, [.int (nI ov), .int (nI st), .int (nI tk), .int (nI gv), .int hc, .int ew, .int sl, .int ca, .int (nI lc), .ref s1, .ref s2])), (s1, .inl (ks1, 24, .inl rm)), (s2, .inl (ks2, 60, .inl lw))] H := hP
        clear hw
        refine lv_iload_n hx hb dX2_hoursRuledBy_15 rfl (lv_at hl 1 rfl) ?_
        refine lv_icmp_ne (tgt := 22) hx hb dX2_hoursRuledBy_16 (by decide) (fun c_16 => ?_) (fun c_16 => ?_)
        · refine lv_iinc (v := nI (i + 1)) (lv' := [(3, .int (nI (i + 1))), (0, .ref s0), (1, .int k), (2, .int q)]) hx hb dX2_hoursRuledBy_22 hl (k := 3) rfl (inc_n i 1) (by decide) rfl (fun ls hl => ?_)
          refine lv_goto (tgt := 4) hx hb dX2_hoursRuledBy_25 (by decide) ?_
          exact ih (i + 1) q _ _ _ (by first | assumption | omega) (by omega) hP hS (lv_sub hl [1, 2, 3, 0] rfl)
        · obtain ⟨x_2, ex_2⟩ : ∃ y : Int32, y = q + Int32.ofInt 1 := ⟨_, rfl⟩
          refine lv_iinc (v := x_2) (lv' := [(2, .int x_2), (0, .ref s0), (1, .int k), (3, .int (nI i))]) hx hb dX2_hoursRuledBy_19 hl (k := 2) rfl ex_2.symm (by decide) rfl (fun ls hl => ?_)
          refine lv_iinc (v := nI (i + 1)) (lv' := [(3, .int (nI (i + 1))), (2, .int x_2), (0, .ref s0), (1, .int k)]) hx hb dX2_hoursRuledBy_22 hl (k := 3) rfl (inc_n i 1) (by decide) rfl (fun ls hl => ?_)
          refine lv_goto (tgt := 4) hx hb dX2_hoursRuledBy_25 (by decide) ?_
          exact ih (i + 1) x_2 _ _ _ (by first | assumption | omega) (by omega) hP hS (lv_sub hl [2, 3, 1, 0] rfl)
  exact L4 (24 - 0 + 1) 0 (nI 0) _ _ _ (by first | assumption | omega) (Nat.lt_succ_self _) hP hS (lv_sub hl [2, 3, 1, 0] rfl)
set_option maxHeartbeats 4000000 in
set_option maxRecDepth 100000 in
theorem c_X2_priceByLaw (l : Launch) (dC : Nat → ClassId) (dI : Nat → Nat → Nat) (s0 s1 s2 : Nat) (ks1 ks2 : ClassId) (ov : Nat) (st : Nat) (tk : Nat) (gv : Nat) (hc : Int32) (ew : Int32) (sl : Int32) (ca : Int32) (lc : Nat) (rm : Nat → Int32) (lw : Nat → Int32) (k : Nat) (h : Int32) (ah : Int32) (i0 : ov ≤ 24) (i1 : st ≤ 60) (i2 : tk ≤ 9) (i3 : gv ≤ 9) (i4 : lc ≤ 12) (i5 : bdA 60 24 rm) (g0 : k < 12) : Met l yX2_priceByLaw wsX2_priceByLaw ({ frames := 1, cells := 0, slots := 0, locals := 22 }) (va_Pc [.ref s0, .int (nI k), .int h, .int ah] (fun U => va_P (dC, dI) vwCl [(s0, .inr (2, [.int (nI ov), .int (nI st), .int (nI tk), .int (nI gv), .int hc, .int ew, .int sl, .int ca, .int (nI lc), .ref s1, .ref s2])), (s1, .inl (ks1, 24, .inl rm)), (s2, .inl (ks2, 60, .inl lw))] U.heap ∧ va_K (dC, dI) vwCl [(ks1, .int), (ks2, .int)] U)) (va_Qi (fun r (_ : Unit) => True) (fun _ _ => True) (fun _ => False)) 0 0 (fun _ => False) := by
  refine Met.ofW (cc := cX2_priceByLaw) (maxL := 7) (ret := (some .int)) (by decide) rfl ?_
  intro p e s m args below meth c s₁ B hml hv
  obtain ⟨rfl, hP, hK⟩ := hv
  have hx := B.exec
  have hb := B.bytes
  have hr := B.returns
  have hts := atoms_spec (ws := wsX2_priceByLaw) B.pre
  have hown : s.vm.findClass RX2 = some m.cls := findClass_of_methodNamed B.named
  have hlocks := B.notSynchronized
  have inX2 : ∀ w ∈ wsX20, w ∈ wsX2_priceByLaw := fun _ h => List.mem_cons_of_mem _ (List.mem_append_right _ h)
  have hS : va_S (fun _ => False) s.heap s.heap [] := va_S.rf
  have hl := lv_entry ([.ref s0, .int (nI k), .int h, .int ah]) (n := 7) (Nat.le_of_ble_eq_true rfl)
  rw [lg_entry_eq]
  generalize (lg_sl ([.ref s0, .int (nI k), .int h, .int ah]) ++ List.replicate (7 - (lg_sl ([.ref s0, .int (nI k), .int h, .int ah])).length) Slot.unset).toArray = ls at hl ⊢
  generalize hQe : MQ below _ _ s 0 0 _ = Q
  generalize ([.ref s0, .int (nI k), .int h, .int ah] : List Value).toArray = args at hts hQe ⊢
  have hl : lv_has ls 7 [(0, .ref s0), (1, .int (nI k)), (2, .int h), (3, .int ah)] := hl
  refine lv_aload_n hx hb dX2_priceByLaw_0 rfl (lv_at hl 0 rfl) ?_
  refine lv_iload_n hx hb dX2_priceByLaw_1 rfl (lv_at hl 1 rfl) ?_
  refine lv_iconst (v := nI 3) hx hb dX2_priceByLaw_2 (by decide) ?_
  have hPc := hP.sub (ws' := [(s0, .inr (2, [.int (nI ov), .int (nI st), .int (nI tk), .int (nI gv), .int hc, .int ew, .int sl, .int ca, .int (nI lc), .ref s1, .ref s2])), (s1, .inl (ks1, 24, .inl rm)), (s2, .inl (ks2, 60, .inl lw))]) [0, 1, 2] rfl
  have hKc := hK.sub (tys' := [(ks1, .int), (ks2, .int)]) [0, 1] rfl
  refine va_calli (va_runV (As := [.int (nI k), .int (nI 3)]) (rest := []) ⟨hx, hb, hml, hown, hts⟩ (c_X2_lawPart l dC dI s0 s1 s2 ks1 ks2 ov st tk gv hc ew sl ca lc rm lw k 3 (by first | assumption | omega) (by first | assumption | omega) (by first | assumption | omega) (by first | assumption | omega) (by first | assumption | omega) (by first | assumption | omega) (by first | assumption | omega) (by first | assumption | omega)) (cwV 2 hts gX2_priceByLaw_X2_lawPart rfl rfl rfl (by decide +kernel) ⟨Nat.le_of_ble_eq_true rfl, Nat.le_of_ble_eq_true rfl⟩) ⟨fun a U g mk q => by obtain ⟨q0, qP, qK⟩ := q; exact ⟨q0, qP, va_K.moved (u := U) (U := U.calling g mk a) (Vm.Alike.refl U.vm) qK⟩, va_recv hKc hPc (ci := 2) (q0 := 0) rfl rfl, fun U hU hW => ⟨rfl, by rw [hU]; exact hPc, va_K.moved hW.alike hKc⟩⟩ rfl rfl hl.1 rfl (lv_room (Nat.le_of_ble_eq_true rfl)) dX2_priceByLaw_3 ⟨Nat.le_of_ble_eq_true rfl, Nat.le_of_ble_eq_true rfl⟩) hS (fun q _ h => h.elim) (fun q h => h.elim) (fun r_1 u t H1 locs ht hvm hw hB hz1 hk1 hS => ?_)
  refine W.widen (k := 0) (n := 0) (Nat.le_of_ble_eq_true rfl) (Nat.le_of_ble_eq_true rfl) ?_
  have hP := hP.kept (H1 := H1) (fun k q hk => hk1 q.1 (hP k q hk).lt (fun h => h))
  clear hz1 hk1 hB ht hvm t
  generalize H1 = H at hP hS ⊢
  have hP : va_P (dC, dI) vwCl [(s0, .inr (2, [.int (nI ov), .int (nI st), .int (nI tk), .int (nI gv), .int hc, .int ew, .int sl, .int ca, .int (nI lc), .ref s1, .ref s2])), (s1, .inl (ks1, 24, .inl rm)), (s2, .inl (ks2, 60, .inl lw))] H := hP
  clear hw
  refine lv_istore (lv' := [(4, .int r_1), (0, .ref s0), (1, .int (nI k)), (2, .int h), (3, .int ah)]) hx hb dX2_priceByLaw_6 hl (by decide) rfl (fun ls hl => ?_)
  refine lv_aload_n hx hb dX2_priceByLaw_8 rfl (lv_at hl 1 rfl) ?_
  refine lv_iload_n hx hb dX2_priceByLaw_9 rfl (lv_at hl 2 rfl) ?_
  refine lv_iconst (v := nI 4) hx hb dX2_priceByLaw_10 (by decide) ?_
  have hPc := hP.sub (ws' := [(s0, .inr (2, [.int (nI ov), .int (nI st), .int (nI tk), .int (nI gv), .int hc, .int ew, .int sl, .int ca, .int (nI lc), .ref s1, .ref s2])), (s1, .inl (ks1, 24, .inl rm)), (s2, .inl (ks2, 60, .inl lw))]) [0, 1, 2] rfl
  have hKc := hK.sub (tys' := [(ks1, .int), (ks2, .int)]) [0, 1] rfl
  refine va_calli (va_runV (As := [.int (nI k), .int (nI 4)]) (rest := []) ⟨hx, hb, hml, hown, hts⟩ (c_X2_lawPart l dC dI s0 s1 s2 ks1 ks2 ov st tk gv hc ew sl ca lc rm lw k 4 (by first | assumption | omega) (by first | assumption | omega) (by first | assumption | omega) (by first | assumption | omega) (by first | assumption | omega) (by first | assumption | omega) (by first | assumption | omega) (by first | assumption | omega)) (cwV 2 hts gX2_priceByLaw_X2_lawPart rfl rfl rfl (by decide +kernel) ⟨Nat.le_of_ble_eq_true rfl, Nat.le_of_ble_eq_true rfl⟩) ⟨fun a U g mk q => by obtain ⟨q0, qP, qK⟩ := q; exact ⟨q0, qP, va_K.moved (u := U) (U := U.calling g mk a) (Vm.Alike.refl U.vm) qK⟩, va_recv hKc hPc (ci := 2) (q0 := 0) rfl rfl, fun U hU hW => ⟨rfl, by rw [hU]; exact hPc, va_K.moved hW.alike hKc⟩⟩ rfl rfl hl.1 rfl (lv_room (Nat.le_of_ble_eq_true rfl)) dX2_priceByLaw_11 ⟨Nat.le_of_ble_eq_true rfl, Nat.le_of_ble_eq_true rfl⟩) hS (fun q _ h => h.elim) (fun q h => h.elim) (fun r_2 u t H1 locs ht hvm hw hB hz1 hk1 hS => ?_)
  refine W.widen (k := 0) (n := 0) (Nat.le_of_ble_eq_true rfl) (Nat.le_of_ble_eq_true rfl) ?_
  have hP := hP.kept (H1 := H1) (fun k q hk => hk1 q.1 (hP k q hk).lt (fun h => h))
  clear hz1 hk1 hB ht hvm t
  generalize H1 = H at hP hS ⊢
  have hP : va_P (dC, dI) vwCl [(s0, .inr (2, [.int (nI ov), .int (nI st), .int (nI tk), .int (nI gv), .int hc, .int ew, .int sl, .int ca, .int (nI lc), .ref s1, .ref s2])), (s1, .inl (ks1, 24, .inl rm)), (s2, .inl (ks2, 60, .inl lw))] H := hP
  clear hw
  refine lv_istore (lv' := [(5, .int r_2), (4, .int r_1), (0, .ref s0), (1, .int (nI k)), (2, .int h), (3, .int ah)]) hx hb dX2_priceByLaw_14 hl (by decide) rfl (fun ls hl => ?_)
  refine lv_iload_n hx hb dX2_priceByLaw_16 rfl (lv_at hl 4 rfl) ?_
  refine lv_aload_n hx hb dX2_priceByLaw_17 rfl (lv_at hl 2 rfl) ?_
  refine lv_iload_n hx hb dX2_priceByLaw_18 rfl (lv_at hl 3 rfl) ?_
  refine lv_iconst (v := nI 0) hx hb dX2_priceByLaw_19 (by decide) ?_
  have hPc := hP.sub (ws' := [(s0, .inr (2, [.int (nI ov), .int (nI st), .int (nI tk), .int (nI gv), .int hc, .int ew, .int sl, .int ca, .int (nI lc), .ref s1, .ref s2])), (s1, .inl (ks1, 24, .inl rm)), (s2, .inl (ks2, 60, .inl lw))]) [0, 1, 2] rfl
  have hKc := hK.sub (tys' := [(ks1, .int), (ks2, .int)]) [0, 1] rfl
  refine va_calli (va_runV (As := [.int (nI k), .int (nI 0)]) (rest := [.int h]) ⟨hx, hb, hml, hown, hts⟩ (c_X2_lawPart l dC dI s0 s1 s2 ks1 ks2 ov st tk gv hc ew sl ca lc rm lw k 0 (by first | assumption | omega) (by first | assumption | omega) (by first | assumption | omega) (by first | assumption | omega) (by first | assumption | omega) (by first | assumption | omega) (by first | assumption | omega) (by first | assumption | omega)) (cwV 2 hts gX2_priceByLaw_X2_lawPart rfl rfl rfl (by decide +kernel) ⟨Nat.le_of_ble_eq_true rfl, Nat.le_of_ble_eq_true rfl⟩) ⟨fun a U g mk q => by obtain ⟨q0, qP, qK⟩ := q; exact ⟨q0, qP, va_K.moved (u := U) (U := U.calling g mk a) (Vm.Alike.refl U.vm) qK⟩, va_recv hKc hPc (ci := 2) (q0 := 0) rfl rfl, fun U hU hW => ⟨rfl, by rw [hU]; exact hPc, va_K.moved hW.alike hKc⟩⟩ rfl rfl hl.1 rfl (lv_room (Nat.le_of_ble_eq_true rfl)) dX2_priceByLaw_20 ⟨Nat.le_of_ble_eq_true rfl, Nat.le_of_ble_eq_true rfl⟩) hS (fun q _ h => h.elim) (fun q h => h.elim) (fun r_3 u t H1 locs ht hvm hw hB hz1 hk1 hS => ?_)
  refine W.widen (k := 0) (n := 0) (Nat.le_of_ble_eq_true rfl) (Nat.le_of_ble_eq_true rfl) ?_
  have hP := hP.kept (H1 := H1) (fun k q hk => hk1 q.1 (hP k q hk).lt (fun h => h))
  clear hz1 hk1 hB ht hvm t
  generalize H1 = H at hP hS ⊢
  have hP : va_P (dC, dI) vwCl [(s0, .inr (2, [.int (nI ov), .int (nI st), .int (nI tk), .int (nI gv), .int hc, .int ew, .int sl, .int ca, .int (nI lc), .ref s1, .ref s2])), (s1, .inl (ks1, 24, .inl rm)), (s2, .inl (ks2, 60, .inl lw))] H := hP
  clear hw
  refine lv_isub hx hb dX2_priceByLaw_23 ?_
  refine tp_any (fun y_4 => ?_)
  refine lv_istore (lv' := [(6, .int y_4), (5, .int r_2), (4, .int r_1), (0, .ref s0), (1, .int (nI k)), (2, .int h), (3, .int ah)]) hx hb dX2_priceByLaw_24 hl (by decide) rfl (fun ls hl => ?_)
  refine lv_aload_n hx hb dX2_priceByLaw_26 rfl (lv_at hl 3 rfl) ?_
  refine lv_iload_n hx hb dX2_priceByLaw_27 rfl (lv_at hl 4 rfl) ?_
  refine lv_iconst (v := nI 2) hx hb dX2_priceByLaw_28 (by decide) ?_
  have hPc := hP.sub (ws' := [(s0, .inr (2, [.int (nI ov), .int (nI st), .int (nI tk), .int (nI gv), .int hc, .int ew, .int sl, .int ca, .int (nI lc), .ref s1, .ref s2])), (s1, .inl (ks1, 24, .inl rm)), (s2, .inl (ks2, 60, .inl lw))]) [0, 1, 2] rfl
  have hKc := hK.sub (tys' := [(ks1, .int), (ks2, .int)]) [0, 1] rfl
  refine va_calli (va_runV (As := [.int (nI k), .int (nI 2)]) (rest := []) ⟨hx, hb, hml, hown, hts⟩ (c_X2_lawPart l dC dI s0 s1 s2 ks1 ks2 ov st tk gv hc ew sl ca lc rm lw k 2 (by first | assumption | omega) (by first | assumption | omega) (by first | assumption | omega) (by first | assumption | omega) (by first | assumption | omega) (by first | assumption | omega) (by first | assumption | omega) (by first | assumption | omega)) (cwV 2 hts gX2_priceByLaw_X2_lawPart rfl rfl rfl (by decide +kernel) ⟨Nat.le_of_ble_eq_true rfl, Nat.le_of_ble_eq_true rfl⟩) ⟨fun a U g mk q => by obtain ⟨q0, qP, qK⟩ := q; exact ⟨q0, qP, va_K.moved (u := U) (U := U.calling g mk a) (Vm.Alike.refl U.vm) qK⟩, va_recv hKc hPc (ci := 2) (q0 := 0) rfl rfl, fun U hU hW => ⟨rfl, by rw [hU]; exact hPc, va_K.moved hW.alike hKc⟩⟩ rfl rfl hl.1 rfl (lv_room (Nat.le_of_ble_eq_true rfl)) dX2_priceByLaw_29 ⟨Nat.le_of_ble_eq_true rfl, Nat.le_of_ble_eq_true rfl⟩) hS (fun q _ h => h.elim) (fun q h => h.elim) (fun r_5 u t H1 locs ht hvm hw hB hz1 hk1 hS => ?_)
  refine W.widen (k := 0) (n := 0) (Nat.le_of_ble_eq_true rfl) (Nat.le_of_ble_eq_true rfl) ?_
  have hP := hP.kept (H1 := H1) (fun k q hk => hk1 q.1 (hP k q hk).lt (fun h => h))
  clear hz1 hk1 hB ht hvm t
  generalize H1 = H at hP hS ⊢
  have hP : va_P (dC, dI) vwCl [(s0, .inr (2, [.int (nI ov), .int (nI st), .int (nI tk), .int (nI gv), .int hc, .int ew, .int sl, .int ca, .int (nI lc), .ref s1, .ref s2])), (s1, .inl (ks1, 24, .inl rm)), (s2, .inl (ks2, 60, .inl lw))] H := hP
  clear hw
  rcases tb_cases r_5 (n := 3) (by decide) with ⟨k_32, hk_32, ek_32⟩ | c_32
  · subst ek_32
    rcases (show k_32 = 0 ∨ k_32 = 1 ∨ k_32 = 2 ∨ k_32 = 3 by omega) with rfl | rfl | rfl | rfl
    · refine lv_tableIn (off := (32)) (tgt := 64) hx hb dX2_priceByLaw_32 (by decide) (by decide) (by decide) (by decide) ?_
      refine lv_iload hx hb dX2_priceByLaw_64 (lv_at hl 2 rfl) ?_
      subst hQe
      exact W.iret (v := r_1) hx hb hr (fun t ht hW => ⟨⟨_, (), rfl, trivial, trivial⟩, hS.F ht⟩) hS.2.2 dX2_priceByLaw_66
    · refine lv_tableIn (off := (35)) (tgt := 67) hx hb dX2_priceByLaw_32 (by decide) (by decide) (by decide) (by decide) ?_
      refine lv_iload hx hb dX2_priceByLaw_67 (lv_at hl 2 rfl) ?_
      refine lv_iload hx hb dX2_priceByLaw_69 (lv_at hl 1 rfl) ?_
      refine lv_iload hx hb dX2_priceByLaw_71 (lv_at hl 0 rfl) ?_
      refine lv_imul hx hb dX2_priceByLaw_73 ?_
      refine tp_any (fun y_6 => ?_)
      refine lv_iadd hx hb dX2_priceByLaw_74 ?_
      refine tp_any (fun y_7 => ?_)
      subst hQe
      exact W.iret (v := y_7) hx hb hr (fun t ht hW => ⟨⟨_, (), rfl, trivial, trivial⟩, hS.F ht⟩) hS.2.2 dX2_priceByLaw_75
    · refine lv_tableIn (off := (44)) (tgt := 76) hx hb dX2_priceByLaw_32 (by decide) (by decide) (by decide) (by decide) ?_
      refine lv_iload hx hb dX2_priceByLaw_76 (lv_at hl 0 rfl) ?_
      refine lv_iconst (v := nI 2) hx hb dX2_priceByLaw_78 (by decide) ?_
      refine lv_irem hx hb dX2_priceByLaw_79 (by decide) ?_
      refine tp_any (fun y_8 => ?_)
      refine lv_if_ne (tgt := 88) hx hb dX2_priceByLaw_80 (by decide) (fun c_80 => ?_) (fun c_80 => ?_)
      · refine lv_iload hx hb dX2_priceByLaw_88 (lv_at hl 1 rfl) ?_
        subst hQe
        exact W.iret (v := r_2) hx hb hr (fun t ht hW => ⟨⟨_, (), rfl, trivial, trivial⟩, hS.F ht⟩) hS.2.2 dX2_priceByLaw_90
      · refine lv_iload hx hb dX2_priceByLaw_83 (lv_at hl 2 rfl) ?_
        refine lv_goto (tgt := 90) hx hb dX2_priceByLaw_85 (by decide) ?_
        subst hQe
        exact W.iret (v := r_1) hx hb hr (fun t ht hW => ⟨⟨_, (), rfl, trivial, trivial⟩, hS.F ht⟩) hS.2.2 dX2_priceByLaw_90
    · refine lv_tableIn (off := (59)) (tgt := 91) hx hb dX2_priceByLaw_32 (by decide) (by decide) (by decide) (by decide) ?_
      refine lv_iload hx hb dX2_priceByLaw_91 (lv_at hl 2 rfl) ?_
      refine lv_iload hx hb dX2_priceByLaw_93 (lv_at hl 1 rfl) ?_
      refine lv_iconst (v := nI 2) hx hb dX2_priceByLaw_95 (by decide) ?_
      refine lv_iload_n hx hb dX2_priceByLaw_96 rfl (lv_at hl 5 rfl) ?_
      refine lv_imul hx hb dX2_priceByLaw_97 ?_
      refine tp_any (fun y_9 => ?_)
      refine lv_aload_n hx hb dX2_priceByLaw_98 rfl (lv_at hl 3 rfl) ?_
      refine lv_iload_n hx hb dX2_priceByLaw_99 rfl (lv_at hl 4 rfl) ?_
      refine lv_iconst (v := nI 0) hx hb dX2_priceByLaw_100 (by decide) ?_
      have hPc := hP.sub (ws' := [(s0, .inr (2, [.int (nI ov), .int (nI st), .int (nI tk), .int (nI gv), .int hc, .int ew, .int sl, .int ca, .int (nI lc), .ref s1, .ref s2])), (s1, .inl (ks1, 24, .inl rm)), (s2, .inl (ks2, 60, .inl lw))]) [0, 1, 2] rfl
      have hKc := hK.sub (tys' := [(ks1, .int), (ks2, .int)]) [0, 1] rfl
      refine va_calli (va_runV (As := [.int (nI k), .int (nI 0)]) (rest := [.int y_9, .int r_2, .int r_1]) ⟨hx, hb, hml, hown, hts⟩ (c_X2_lawPart l dC dI s0 s1 s2 ks1 ks2 ov st tk gv hc ew sl ca lc rm lw k 0 (by first | assumption | omega) (by first | assumption | omega) (by first | assumption | omega) (by first | assumption | omega) (by first | assumption | omega) (by first | assumption | omega) (by first | assumption | omega) (by first | assumption | omega)) (cwV 2 hts gX2_priceByLaw_X2_lawPart rfl rfl rfl (by decide +kernel) ⟨Nat.le_of_ble_eq_true rfl, Nat.le_of_ble_eq_true rfl⟩) ⟨fun a U g mk q => by obtain ⟨q0, qP, qK⟩ := q; exact ⟨q0, qP, va_K.moved (u := U) (U := U.calling g mk a) (Vm.Alike.refl U.vm) qK⟩, va_recv hKc hPc (ci := 2) (q0 := 0) rfl rfl, fun U hU hW => ⟨rfl, by rw [hU]; exact hPc, va_K.moved hW.alike hKc⟩⟩ rfl rfl hl.1 rfl (lv_room (Nat.le_of_ble_eq_true rfl)) dX2_priceByLaw_101 ⟨Nat.le_of_ble_eq_true rfl, Nat.le_of_ble_eq_true rfl⟩) hS (fun q _ h => h.elim) (fun q h => h.elim) (fun r_10 u t H1 locs ht hvm hw hB hz1 hk1 hS => ?_)
      refine W.widen (k := 0) (n := 0) (Nat.le_of_ble_eq_true rfl) (Nat.le_of_ble_eq_true rfl) ?_
      have hP := hP.kept (H1 := H1) (fun k q hk => hk1 q.1 (hP k q hk).lt (fun h => h))
      clear hz1 hk1 hB ht hvm t
      generalize H1 = H at hP hS ⊢
      have hP : va_P (dC, dI) vwCl [(s0, .inr (2, [.int (nI ov), .int (nI st), .int (nI tk), .int (nI gv), .int hc, .int ew, .int sl, .int ca, .int (nI lc), .ref s1, .ref s2])), (s1, .inl (ks1, 24, .inl rm)), (s2, .inl (ks2, 60, .inl lw))] H := hP
      clear hw
      refine lv_isub hx hb dX2_priceByLaw_104 ?_
      refine tp_any (fun y_11 => ?_)
      refine lv_aload_n hx hb dX2_priceByLaw_105 rfl (lv_at hl 3 rfl) ?_
      refine lv_iload_n hx hb dX2_priceByLaw_106 rfl (lv_at hl 4 rfl) ?_
      refine lv_iconst (v := nI 1) hx hb dX2_priceByLaw_107 (by decide) ?_
      have hPc := hP.sub (ws' := [(s0, .inr (2, [.int (nI ov), .int (nI st), .int (nI tk), .int (nI gv), .int hc, .int ew, .int sl, .int ca, .int (nI lc), .ref s1, .ref s2])), (s1, .inl (ks1, 24, .inl rm)), (s2, .inl (ks2, 60, .inl lw))]) [0, 1, 2] rfl
      have hKc := hK.sub (tys' := [(ks1, .int), (ks2, .int)]) [0, 1] rfl
      refine va_calli (va_runV (As := [.int (nI k), .int (nI 1)]) (rest := [.int y_11, .int r_2, .int r_1]) ⟨hx, hb, hml, hown, hts⟩ (c_X2_lawPart l dC dI s0 s1 s2 ks1 ks2 ov st tk gv hc ew sl ca lc rm lw k 1 (by first | assumption | omega) (by first | assumption | omega) (by first | assumption | omega) (by first | assumption | omega) (by first | assumption | omega) (by first | assumption | omega) (by first | assumption | omega) (by first | assumption | omega)) (cwV 2 hts gX2_priceByLaw_X2_lawPart rfl rfl rfl (by decide +kernel) ⟨Nat.le_of_ble_eq_true rfl, Nat.le_of_ble_eq_true rfl⟩) ⟨fun a U g mk q => by obtain ⟨q0, qP, qK⟩ := q; exact ⟨q0, qP, va_K.moved (u := U) (U := U.calling g mk a) (Vm.Alike.refl U.vm) qK⟩, va_recv hKc hPc (ci := 2) (q0 := 0) rfl rfl, fun U hU hW => ⟨rfl, by rw [hU]; exact hPc, va_K.moved hW.alike hKc⟩⟩ rfl rfl hl.1 rfl (lv_room (Nat.le_of_ble_eq_true rfl)) dX2_priceByLaw_108 ⟨Nat.le_of_ble_eq_true rfl, Nat.le_of_ble_eq_true rfl⟩) hS (fun q _ h => h.elim) (fun q h => h.elim) (fun r_12 u t H1 locs ht hvm hw hB hz1 hk1 hS => ?_)
      refine W.widen (k := 0) (n := 0) (Nat.le_of_ble_eq_true rfl) (Nat.le_of_ble_eq_true rfl) ?_
      have hP := hP.kept (H1 := H1) (fun k q hk => hk1 q.1 (hP k q hk).lt (fun h => h))
      clear hz1 hk1 hB ht hvm t
      generalize H1 = H at hP hS ⊢
      have hP : va_P (dC, dI) vwCl [(s0, .inr (2, [.int (nI ov), .int (nI st), .int (nI tk), .int (nI gv), .int hc, .int ew, .int sl, .int ca, .int (nI lc), .ref s1, .ref s2])), (s1, .inl (ks1, 24, .inl rm)), (s2, .inl (ks2, 60, .inl lw))] H := hP
      clear hw
      refine lv_isub hx hb dX2_priceByLaw_111 ?_
      refine tp_any (fun y_13 => ?_)
      refine va_mabs hx hb (hml.trans hl.1.symm) (own := RX2) hown (hts (.methodLink RX2 44 Lib.Math.abs.name) (List.mem_of_getElem? (i := 1) rfl)) (hts (.static Lib.Math.abs.name) (List.mem_of_getElem? (i := 2) rfl)) (hts (.initialized "java/lang/Math") (List.mem_of_getElem? (i := 3) rfl)) (hts (.code Lib.Math.abs.name Lib.Math.abs.code 1 (some .int)) (List.mem_of_getElem? (i := 4) rfl)) (Nat.le_of_ble_eq_true rfl) (Nat.le_of_ble_eq_true rfl) (Nat.le_of_ble_eq_true rfl) (Nat.le_of_ble_eq_true rfl) dX2_priceByLaw_112 ?_
      refine tp_any (fun y_14 => ?_)
      refine lv_imul hx hb dX2_priceByLaw_115 ?_
      refine tp_any (fun y_15 => ?_)
      refine lv_iadd hx hb dX2_priceByLaw_116 ?_
      refine tp_any (fun y_16 => ?_)
      subst hQe
      exact W.iret (v := y_16) hx hb hr (fun t ht hW => ⟨⟨_, (), rfl, trivial, trivial⟩, hS.F ht⟩) hS.2.2 dX2_priceByLaw_117
  · refine lv_tableOut (tgt := 118) hx hb dX2_priceByLaw_32 (by omega) (by decide) ?_
    refine lv_iload hx hb dX2_priceByLaw_118 (lv_at hl 2 rfl) ?_
    refine lv_iload_n hx hb dX2_priceByLaw_120 rfl (lv_at hl 6 rfl) ?_
    refine lv_icmp_ge (tgt := 129) hx hb dX2_priceByLaw_121 (by decide) (fun c_121 => ?_) (fun c_121 => ?_)
    · refine lv_iload_n hx hb dX2_priceByLaw_129 rfl (lv_at hl 6 rfl) ?_
      refine lv_iload hx hb dX2_priceByLaw_130 (lv_at hl 1 rfl) ?_
      refine lv_iadd hx hb dX2_priceByLaw_132 ?_
      refine tp_any (fun y_17 => ?_)
      subst hQe
      exact W.iret (v := y_17) hx hb hr (fun t ht hW => ⟨⟨_, (), rfl, trivial, trivial⟩, hS.F ht⟩) hS.2.2 dX2_priceByLaw_133
    · refine lv_iload hx hb dX2_priceByLaw_124 (lv_at hl 2 rfl) ?_
      refine lv_goto (tgt := 133) hx hb dX2_priceByLaw_126 (by decide) ?_
      subst hQe
      exact W.iret (v := r_1) hx hb hr (fun t ht hW => ⟨⟨_, (), rfl, trivial, trivial⟩, hS.F ht⟩) hS.2.2 dX2_priceByLaw_133
set_option maxHeartbeats 4000000 in
set_option maxRecDepth 100000 in
theorem c_X2_priceOf (l : Launch) (dC : Nat → ClassId) (dI : Nat → Nat → Nat) (s0 s1 s2 : Nat) (ks1 ks2 : ClassId) (ov : Nat) (st : Nat) (tk : Nat) (gv : Nat) (hc : Int32) (ew : Int32) (sl : Int32) (ca : Int32) (lc : Nat) (rm : Nat → Int32) (lw : Nat → Int32) (h : Int32) (i0 : ov ≤ 24) (i1 : st ≤ 60) (i2 : tk ≤ 9) (i3 : gv ≤ 9) (i4 : lc ≤ 12) (i5 : bdA 60 24 rm) : Met l yX2_priceOf wsX2_priceOf ({ frames := 2, cells := 0, slots := 0, locals := 48 }) (va_Pc [.ref s0, .int h] (fun U => va_P (dC, dI) vwCl [(s0, .inr (2, [.int (nI ov), .int (nI st), .int (nI tk), .int (nI gv), .int hc, .int ew, .int sl, .int ca, .int (nI lc), .ref s1, .ref s2])), (s1, .inl (ks1, 24, .inl rm)), (s2, .inl (ks2, 60, .inl lw))] U.heap ∧ va_K (dC, dI) vwCl [(ks1, .int), (ks2, .int)] U)) (va_Qi (fun r (_ : Unit) => True) (fun _ _ => True) (fun _ => False)) 0 0 (fun _ => False) := by
  refine Met.ofW (cc := cX2_priceOf) (maxL := 4) (ret := (some .int)) (by decide) rfl ?_
  intro p e s m args below meth c s₁ B hml hv
  obtain ⟨rfl, hP, hK⟩ := hv
  have hx := B.exec
  have hb := B.bytes
  have hr := B.returns
  have hts := atoms_spec (ws := wsX2_priceOf) B.pre
  have hown : s.vm.findClass RX2 = some m.cls := findClass_of_methodNamed B.named
  have hlocks := B.notSynchronized
  have inX2 : ∀ w ∈ wsX20, w ∈ wsX2_priceOf := fun _ h => List.mem_cons_of_mem _ (List.mem_append_right _ h)
  have hS : va_S (fun _ => False) s.heap s.heap [] := va_S.rf
  have hl := lv_entry ([.ref s0, .int h]) (n := 4) (Nat.le_of_ble_eq_true rfl)
  rw [lg_entry_eq]
  generalize (lg_sl ([.ref s0, .int h]) ++ List.replicate (4 - (lg_sl ([.ref s0, .int h])).length) Slot.unset).toArray = ls at hl ⊢
  generalize hQe : MQ below _ _ s 0 0 _ = Q
  generalize ([.ref s0, .int h] : List Value).toArray = args at hts hQe ⊢
  have hl : lv_has ls 4 [(0, .ref s0), (1, .int h)] := hl
  refine lv_iconst (v := nI 0) hx hb dX2_priceOf_0 (by decide) ?_
  refine lv_istore_n (lv' := [(2, .int (nI 0)), (0, .ref s0), (1, .int h)]) hx hb dX2_priceOf_1 rfl hl (by decide) rfl (fun ls hl => ?_)
  refine lv_iconst (v := nI 0) hx hb dX2_priceOf_2 (by decide) ?_
  refine lv_istore_n (lv' := [(3, .int (nI 0)), (2, .int (nI 0)), (0, .ref s0), (1, .int h)]) hx hb dX2_priceOf_3 rfl hl (by decide) rfl (fun ls hl => ?_)
  have L4 : ∀ (n : Nat) (i : Nat) (q : Int32) (H : Heap) (locs : List Loc) (ls : Array Slot), i ≤ 12 → 12 - i < n → va_P (dC, dI) vwCl [(s0, .inr (2, [.int (nI ov), .int (nI st), .int (nI tk), .int (nI gv), .int hc, .int ew, .int sl, .int ca, .int (nI lc), .ref s1, .ref s2])), (s1, .inl (ks1, 24, .inl rm)), (s2, .inl (ks2, 60, .inl lw))] H → va_S (fun _ => False) s.heap H locs → lv_has ls 4 [(0, .ref s0), (1, .int h), (2, .int q), (3, .int (nI i))] → W p l e (headSpec wsX2_priceOf { frames := 2, cells := 0, slots := 0, locals := 48 }).room s m args below meth c H locs 0 0 Q (F0 m 4 ls []) := by
    intro n
    induction n with
    | zero => intro i q H locs ls hL4_0 hn; exact absurd hn (Nat.not_lt_zero _)
    | succ n ih =>
      intro i q H locs ls hL4_0 hn hP hS hl
      refine lv_iload_n hx hb dX2_priceOf_4 rfl (lv_at hl 3 rfl) ?_
      refine lv_aload_n hx hb dX2_priceOf_5 rfl (lv_at hl 0 rfl) ?_
      refine va_get (D := (dC, dI)) (ci := 2) (v := .int (nI lc)) (C := RX2) (T := TX2) (N := 11) hx hb hts inX2 hown hK hP 0 rfl rfl 8 (by decide) (hts (.fieldLink RX2 29 "StoreSlopes$State" "lawCount" "I") (List.mem_of_getElem? (i := 1) rfl)) (fun _ h9 => h9) rfl dX2_priceOf_6 ?_
      refine lv_icmp_ge (tgt := 35) hx hb dX2_priceOf_9 (by decide) (fun c_9 => ?_) (fun c_9 => ?_)
      · have c_9 := (nI_leI (by omega : lc < 2 ^ 31) (by omega : i < 2 ^ 31)).mp c_9
        refine lv_iload_n hx hb dX2_priceOf_35 rfl (lv_at hl 2 rfl) ?_
        subst hQe
        exact W.iret (v := q) hx hb hr (fun t ht hW => ⟨⟨_, (), rfl, trivial, trivial⟩, hS.F ht⟩) hS.2.2 dX2_priceOf_36
      · have c_9 := (not_congr (nI_leI (by omega : lc < 2 ^ 31) (by omega : i < 2 ^ 31))).mp c_9
        refine lv_aload_n hx hb dX2_priceOf_12 rfl (lv_at hl 0 rfl) ?_
        refine lv_iload_n hx hb dX2_priceOf_13 rfl (lv_at hl 3 rfl) ?_
        refine lv_iload_n hx hb dX2_priceOf_14 rfl (lv_at hl 1 rfl) ?_
        have hPc := hP.sub (ws' := [(s0, .inr (2, [.int (nI ov), .int (nI st), .int (nI tk), .int (nI gv), .int hc, .int ew, .int sl, .int ca, .int (nI lc), .ref s1, .ref s2])), (s1, .inl (ks1, 24, .inl rm)), (s2, .inl (ks2, 60, .inl lw))]) [0, 1, 2] rfl
        have hKc := hK.sub (tys' := [(ks1, .int), (ks2, .int)]) [0, 1] rfl
        refine va_calli (va_runV (As := [.int (nI i), .int h]) (rest := []) ⟨hx, hb, hml, hown, hts⟩ (c_X2_lawHas l dC dI s0 s1 s2 ks1 ks2 ov st tk gv hc ew sl ca lc rm lw i h (by first | assumption | omega) (by first | assumption | omega) (by first | assumption | omega) (by first | assumption | omega) (by first | assumption | omega) (by first | assumption | omega) (by first | assumption | omega)) (cwV 2 hts gX2_priceOf_X2_lawHas rfl rfl rfl (by decide +kernel) ⟨Nat.le_of_ble_eq_true rfl, Nat.le_of_ble_eq_true rfl⟩) ⟨fun a U g mk q => by obtain ⟨q0, qP, qK⟩ := q; exact ⟨q0, qP, va_K.moved (u := U) (U := U.calling g mk a) (Vm.Alike.refl U.vm) qK⟩, va_recv hKc hPc (ci := 2) (q0 := 0) rfl rfl, fun U hU hW => ⟨rfl, by rw [hU]; exact hPc, va_K.moved hW.alike hKc⟩⟩ rfl rfl hl.1 rfl (lv_room (Nat.le_of_ble_eq_true rfl)) dX2_priceOf_15 ⟨Nat.le_of_ble_eq_true rfl, Nat.le_of_ble_eq_true rfl⟩) hS (fun q _ h => h.elim) (fun q h => h.elim) (fun r_1 u t H1 locs ht hvm hw hB hz1 hk1 hS => ?_)
        refine W.widen (k := 0) (n := 0) (Nat.le_of_ble_eq_true rfl) (Nat.le_of_ble_eq_true rfl) ?_
        have hP := hP.kept (H1 := H1) (fun k q hk => hk1 q.1 (hP k q hk).lt (fun h => h))
        clear hz1 hk1 hB ht hvm t
        generalize H1 = H at hP hS ⊢
        have hP : va_P (dC, dI) vwCl [(s0, .inr (2, [.int (nI ov), .int (nI st), .int (nI tk), .int (nI gv), .int hc, .int ew, .int sl, .int ca, .int (nI lc), .ref s1, .ref s2])), (s1, .inl (ks1, 24, .inl rm)), (s2, .inl (ks2, 60, .inl lw))] H := hP
        clear hw
        refine lv_if_eq (tgt := 29) hx hb dX2_priceOf_18 (by decide) (fun c_18 => ?_) (fun c_18 => ?_)
        · refine lv_iinc (v := nI (i + 1)) (lv' := [(3, .int (nI (i + 1))), (0, .ref s0), (1, .int h), (2, .int q)]) hx hb dX2_priceOf_29 hl (k := 3) rfl (inc_n i 1) (by decide) rfl (fun ls hl => ?_)
          refine lv_goto (tgt := 4) hx hb dX2_priceOf_32 (by decide) ?_
          exact ih (i + 1) q _ _ _ (by first | assumption | omega) (by omega) hP hS (lv_sub hl [1, 2, 3, 0] rfl)
        · refine lv_aload_n hx hb dX2_priceOf_21 rfl (lv_at hl 0 rfl) ?_
          refine lv_iload_n hx hb dX2_priceOf_22 rfl (lv_at hl 3 rfl) ?_
          refine lv_iload_n hx hb dX2_priceOf_23 rfl (lv_at hl 1 rfl) ?_
          refine lv_iload_n hx hb dX2_priceOf_24 rfl (lv_at hl 2 rfl) ?_
          have hPc := hP.sub (ws' := [(s0, .inr (2, [.int (nI ov), .int (nI st), .int (nI tk), .int (nI gv), .int hc, .int ew, .int sl, .int ca, .int (nI lc), .ref s1, .ref s2])), (s1, .inl (ks1, 24, .inl rm)), (s2, .inl (ks2, 60, .inl lw))]) [0, 1, 2] rfl
          have hKc := hK.sub (tys' := [(ks1, .int), (ks2, .int)]) [0, 1] rfl
          refine va_calli (va_runV (As := [.int (nI i), .int h, .int q]) (rest := []) ⟨hx, hb, hml, hown, hts⟩ (c_X2_priceByLaw l dC dI s0 s1 s2 ks1 ks2 ov st tk gv hc ew sl ca lc rm lw i h q (by first | assumption | omega) (by first | assumption | omega) (by first | assumption | omega) (by first | assumption | omega) (by first | assumption | omega) (by first | assumption | omega) (by first | assumption | omega)) (cwV 3 hts gX2_priceOf_X2_priceByLaw rfl rfl rfl (by decide +kernel) ⟨Nat.le_of_ble_eq_true rfl, Nat.le_of_ble_eq_true rfl⟩) ⟨fun a U g mk q => by obtain ⟨q0, qP, qK⟩ := q; exact ⟨q0, qP, va_K.moved (u := U) (U := U.calling g mk a) (Vm.Alike.refl U.vm) qK⟩, va_recv hKc hPc (ci := 2) (q0 := 0) rfl rfl, fun U hU hW => ⟨rfl, by rw [hU]; exact hPc, va_K.moved hW.alike hKc⟩⟩ rfl rfl hl.1 rfl (lv_room (Nat.le_of_ble_eq_true rfl)) dX2_priceOf_25 ⟨Nat.le_of_ble_eq_true rfl, Nat.le_of_ble_eq_true rfl⟩) hS (fun q _ h => h.elim) (fun q h => h.elim) (fun r_2 u t H1 locs ht hvm hw hB hz1 hk1 hS => ?_)
          refine W.widen (k := 0) (n := 0) (Nat.le_of_ble_eq_true rfl) (Nat.le_of_ble_eq_true rfl) ?_
          have hP := hP.kept (H1 := H1) (fun k q hk => hk1 q.1 (hP k q hk).lt (fun h => h))
          clear hz1 hk1 hB ht hvm t
          generalize H1 = H at hP hS ⊢
          have hP : va_P (dC, dI) vwCl [(s0, .inr (2, [.int (nI ov), .int (nI st), .int (nI tk), .int (nI gv), .int hc, .int ew, .int sl, .int ca, .int (nI lc), .ref s1, .ref s2])), (s1, .inl (ks1, 24, .inl rm)), (s2, .inl (ks2, 60, .inl lw))] H := hP
          clear hw
          refine lv_istore_n (lv' := [(2, .int r_2), (0, .ref s0), (1, .int h), (3, .int (nI i))]) hx hb dX2_priceOf_28 rfl hl (by decide) rfl (fun ls hl => ?_)
          refine lv_iinc (v := nI (i + 1)) (lv' := [(3, .int (nI (i + 1))), (2, .int r_2), (0, .ref s0), (1, .int h)]) hx hb dX2_priceOf_29 hl (k := 3) rfl (inc_n i 1) (by decide) rfl (fun ls hl => ?_)
          refine lv_goto (tgt := 4) hx hb dX2_priceOf_32 (by decide) ?_
          exact ih (i + 1) r_2 _ _ _ (by first | assumption | omega) (by omega) hP hS (lv_sub hl [2, 3, 1, 0] rfl)
  exact L4 (12 - 0 + 1) 0 (nI 0) _ _ _ (by first | assumption | omega) (Nat.lt_succ_self _) hP hS (lv_sub hl [2, 3, 1, 0] rfl)
set_option maxHeartbeats 4000000 in
set_option maxRecDepth 100000 in
theorem c_X2_addLaw (l : Launch) (dC : Nat → ClassId) (dI : Nat → Nat → Nat) (s0 s1 s2 : Nat) (ks1 ks2 : ClassId) (sz : Nat) (ov : Nat) (st : Nat) (tk : Nat) (gv : Nat) (hc : Int32) (ew : Int32) (sl : Int32) (ca : Int32) (lc : Nat) (rm : Nat → Int32) (lw : Nat → Int32) (f : Int32) (u : Int32) (kd : Int32) (a : Int32) (b : Int32) (i0 : ov ≤ 24) (i1 : st ≤ 60) (i2 : tk ≤ 9) (i3 : gv ≤ 9) (i4 : lc ≤ 12) (i5 : bdA 60 24 rm) : Met l yX2_addLaw wsX2_addLaw ({ frames := 0, cells := 0, slots := 0, locals := 0 }) (va_Pc [.ref s0, .int f, .int u, .int kd, .int a, .int b] (fun U => U.heap.size = sz ∧ va_P (dC, dI) vwCl [(s0, .inr (2, [.int (nI ov), .int (nI st), .int (nI tk), .int (nI gv), .int hc, .int ew, .int sl, .int ca, .int (nI lc), .ref s1, .ref s2])), (s1, .inl (ks1, 24, .inl rm)), (s2, .inl (ks2, 60, .inl lw))] U.heap ∧ va_K (dC, dI) vwCl [(ks1, .int), (ks2, .int)] U ∧ va_D (fun _ => True) [(s0, .inr (2, [.int (nI ov), .int (nI st), .int (nI tk), .int (nI gv), .int hc, .int ew, .int sl, .int ca, .int (nI lc), .ref s1, .ref s2])), (s1, .inl (ks1, 24, .inl rm)), (s2, .inl (ks2, 60, .inl lw))])) (va_Qv (fun _ : Unit => True) (fun _ t => ∃ (lc' : Nat) (lw' : Nat → Int32), lc' ≤ 12 ∧ va_P (dC, dI) vwCl [(s0, .inr (2, [.int (nI ov), .int (nI st), .int (nI tk), .int (nI gv), .int hc, .int ew, .int sl, .int ca, .int (nI lc'), .ref s1, .ref s2])), (s1, .inl (ks1, 24, .inl rm)), (s2, .inl (ks2, 60, .inl lw'))] t.heap ∧ va_K (dC, dI) vwCl [(ks1, .int), (ks2, .int)] t ∧ va_D (va_A [(s0, .inr (2, [.int (nI ov), .int (nI st), .int (nI tk), .int (nI gv), .int hc, .int ew, .int sl, .int ca, .int (nI lc), .ref s1, .ref s2])), (s1, .inl (ks1, 24, .inl rm)), (s2, .inl (ks2, 60, .inl lw))] sz) [(s0, .inr (2, [.int (nI ov), .int (nI st), .int (nI tk), .int (nI gv), .int hc, .int ew, .int sl, .int ca, .int (nI lc'), .ref s1, .ref s2])), (s1, .inl (ks1, 24, .inl rm)), (s2, .inl (ks2, 60, .inl lw'))]) (va_A [(s0, .inr (2, [.int (nI ov), .int (nI st), .int (nI tk), .int (nI gv), .int hc, .int ew, .int sl, .int ca, .int (nI lc), .ref s1, .ref s2])), (s1, .inl (ks1, 24, .inl rm)), (s2, .inl (ks2, 60, .inl lw))] sz)) 0 0 (va_A [(s0, .inr (2, [.int (nI ov), .int (nI st), .int (nI tk), .int (nI gv), .int hc, .int ew, .int sl, .int ca, .int (nI lc), .ref s1, .ref s2])), (s1, .inl (ks1, 24, .inl rm)), (s2, .inl (ks2, 60, .inl lw))] sz) := by
  refine Met.ofW (cc := cX2_addLaw) (maxL := 7) (ret := none) (by decide) rfl ?_
  intro p e s m args below meth c s₁ B hml hv
  obtain ⟨rfl, hsz, hP, hK, hD0⟩ := hv
  have hx := B.exec
  have hb := B.bytes
  have hr := B.returns
  have hts := atoms_spec (ws := wsX2_addLaw) B.pre
  have hown : s.vm.findClass RX2 = some m.cls := findClass_of_methodNamed B.named
  have hlocks := B.notSynchronized
  have inX2 : ∀ w ∈ wsX20, w ∈ wsX2_addLaw := fun _ h => List.mem_cons_of_mem _ (List.mem_append_right _ h)
  subst hsz
  have hD := hD0.self (sz := s.heap.size)
  generalize hAe : va_A [(s0, .inr (2, [.int (nI ov), .int (nI st), .int (nI tk), .int (nI gv), .int hc, .int ew, .int sl, .int ca, .int (nI lc), .ref s1, .ref s2])), (s1, .inl (ks1, 24, .inl rm)), (s2, .inl (ks2, 60, .inl lw))] s.heap.size = A at hD ⊢
  have hA : ∀ q : Nat, s.heap.size ≤ q → A q := fun q h => by rw [← hAe]; exact Or.inr h
  have hS : va_S A s.heap s.heap [] := va_S.rf
  have hl := lv_entry ([.ref s0, .int f, .int u, .int kd, .int a, .int b]) (n := 7) (Nat.le_of_ble_eq_true rfl)
  rw [lg_entry_eq]
  generalize (lg_sl ([.ref s0, .int f, .int u, .int kd, .int a, .int b]) ++ List.replicate (7 - (lg_sl ([.ref s0, .int f, .int u, .int kd, .int a, .int b])).length) Slot.unset).toArray = ls at hl ⊢
  generalize hQe : MQ below _ _ s 0 0 _ = Q
  generalize ([.ref s0, .int f, .int u, .int kd, .int a, .int b] : List Value).toArray = args at hts hQe ⊢
  have hl : lv_has ls 7 [(0, .ref s0), (1, .int f), (2, .int u), (3, .int kd), (4, .int a), (5, .int b)] := hl
  refine lv_aload_n hx hb dX2_addLaw_0 rfl (lv_at hl 0 rfl) ?_
  refine va_get (D := (dC, dI)) (ci := 2) (v := .int (nI lc)) (C := RX2) (T := TX2) (N := 11) hx hb hts inX2 hown hK hP 0 rfl rfl 8 (by decide) (hts (.fieldLink RX2 29 "StoreSlopes$State" "lawCount" "I") (List.mem_of_getElem? (i := 1) rfl)) (fun _ h9 => h9) rfl dX2_addLaw_1 ?_
  refine lv_bipush (v := nI 12) hx hb dX2_addLaw_4 (by decide) ?_
  refine lv_icmp_lt (tgt := 10) hx hb dX2_addLaw_6 (by decide) (fun c_6 => ?_) (fun c_6 => ?_)
  · have c_6 := (nI_ltI (by omega : lc < 2 ^ 31) (by omega : 12 < 2 ^ 31)).mp c_6
    refine lv_aload_n hx hb dX2_addLaw_10 rfl (lv_at hl 0 rfl) ?_
    refine va_get (D := (dC, dI)) (ci := 2) (v := .int (nI lc)) (C := RX2) (T := TX2) (N := 11) hx hb hts inX2 hown hK hP 0 rfl rfl 8 (by decide) (hts (.fieldLink RX2 29 "StoreSlopes$State" "lawCount" "I") (List.mem_of_getElem? (i := 1) rfl)) (fun _ h9 => h9) rfl dX2_addLaw_11 ?_
    refine lv_iconst (v := nI 5) hx hb dX2_addLaw_14 (by decide) ?_
    refine lv_imul hx hb dX2_addLaw_15 ?_
    refine tp_as (pk_mul lc 5) ?_
    refine lv_istore (lv' := [(6, .int (nI (lc * 5))), (0, .ref s0), (1, .int f), (2, .int u), (3, .int kd), (4, .int a), (5, .int b)]) hx hb dX2_addLaw_16 hl (by decide) rfl (fun ls hl => ?_)
    refine lv_aload_n hx hb dX2_addLaw_18 rfl (lv_at hl 1 rfl) ?_
    refine va_get (D := (dC, dI)) (ci := 2) (v := .ref s2) (C := RX2) (T := TX2) (N := 11) hx hb hts inX2 hown hK hP 0 rfl rfl 10 (by decide) (hts (.fieldLink RX2 22 "StoreSlopes$State" "laws" "[I") (List.mem_of_getElem? (i := 2) rfl)) (fun _ h9 => h9) rfl dX2_addLaw_19 ?_
    refine lv_iload hx hb dX2_addLaw_22 (lv_at hl 0 rfl) ?_
    refine lv_iconst (v := nI 0) hx hb dX2_addLaw_24 (by decide) ?_
    refine lv_iadd hx hb dX2_addLaw_25 ?_
    refine tp_as (nI_add (lc * 5) 0) ?_
    refine lv_iload_n hx hb dX2_addLaw_26 rfl (lv_at hl 2 rfl) ?_
    refine va_iast hx hb hK hP hD hS 2 1 rfl rfl (vp_in_nI (show lc * 5 + 0 < 60 by omega) (by omega)) dX2_addLaw_27 (fun H locs hP hD hS => ?_)
    have hP : va_P (dC, dI) vwCl [(s0, .inr (2, [.int (nI ov), .int (nI st), .int (nI tk), .int (nI gv), .int hc, .int ew, .int sl, .int ca, .int (nI lc), .ref s1, .ref s2])), (s1, .inl (ks1, 24, .inl rm)), (s2, .inl (ks2, 60, .inl (upd lw (nI (lc * 5 + 0)).toNatClampNeg (f))))] H := hP
    have hD : va_D A [(s0, .inr (2, [.int (nI ov), .int (nI st), .int (nI tk), .int (nI gv), .int hc, .int ew, .int sl, .int ca, .int (nI lc), .ref s1, .ref s2])), (s1, .inl (ks1, 24, .inl rm)), (s2, .inl (ks2, 60, .inl (upd lw (nI (lc * 5 + 0)).toNatClampNeg (f))))] := hD
    generalize ef_1 : upd lw (nI (lc * 5 + 0)).toNatClampNeg (f) = f_1 at hP hD
    clear ef_1
    refine lv_aload_n hx hb dX2_addLaw_28 rfl (lv_at hl 1 rfl) ?_
    refine va_get (D := (dC, dI)) (ci := 2) (v := .ref s2) (C := RX2) (T := TX2) (N := 11) hx hb hts inX2 hown hK hP 0 rfl rfl 10 (by decide) (hts (.fieldLink RX2 22 "StoreSlopes$State" "laws" "[I") (List.mem_of_getElem? (i := 2) rfl)) (fun _ h9 => h9) rfl dX2_addLaw_29 ?_
    refine lv_iload hx hb dX2_addLaw_32 (lv_at hl 0 rfl) ?_
    refine lv_iconst (v := nI 1) hx hb dX2_addLaw_34 (by decide) ?_
    refine lv_iadd hx hb dX2_addLaw_35 ?_
    refine tp_as (nI_add (lc * 5) 1) ?_
    refine lv_iload_n hx hb dX2_addLaw_36 rfl (lv_at hl 3 rfl) ?_
    refine va_iast hx hb hK hP hD hS 2 1 rfl rfl (vp_in_nI (show lc * 5 + 1 < 60 by omega) (by omega)) dX2_addLaw_37 (fun H locs hP hD hS => ?_)
    have hP : va_P (dC, dI) vwCl [(s0, .inr (2, [.int (nI ov), .int (nI st), .int (nI tk), .int (nI gv), .int hc, .int ew, .int sl, .int ca, .int (nI lc), .ref s1, .ref s2])), (s1, .inl (ks1, 24, .inl rm)), (s2, .inl (ks2, 60, .inl (upd f_1 (nI (lc * 5 + 1)).toNatClampNeg (u))))] H := hP
    have hD : va_D A [(s0, .inr (2, [.int (nI ov), .int (nI st), .int (nI tk), .int (nI gv), .int hc, .int ew, .int sl, .int ca, .int (nI lc), .ref s1, .ref s2])), (s1, .inl (ks1, 24, .inl rm)), (s2, .inl (ks2, 60, .inl (upd f_1 (nI (lc * 5 + 1)).toNatClampNeg (u))))] := hD
    generalize ef_2 : upd f_1 (nI (lc * 5 + 1)).toNatClampNeg (u) = f_2 at hP hD
    clear ef_2
    refine lv_aload_n hx hb dX2_addLaw_38 rfl (lv_at hl 1 rfl) ?_
    refine va_get (D := (dC, dI)) (ci := 2) (v := .ref s2) (C := RX2) (T := TX2) (N := 11) hx hb hts inX2 hown hK hP 0 rfl rfl 10 (by decide) (hts (.fieldLink RX2 22 "StoreSlopes$State" "laws" "[I") (List.mem_of_getElem? (i := 2) rfl)) (fun _ h9 => h9) rfl dX2_addLaw_39 ?_
    refine lv_iload hx hb dX2_addLaw_42 (lv_at hl 0 rfl) ?_
    refine lv_iconst (v := nI 2) hx hb dX2_addLaw_44 (by decide) ?_
    refine lv_iadd hx hb dX2_addLaw_45 ?_
    refine tp_as (nI_add (lc * 5) 2) ?_
    refine lv_iload_n hx hb dX2_addLaw_46 rfl (lv_at hl 4 rfl) ?_
    refine va_iast hx hb hK hP hD hS 2 1 rfl rfl (vp_in_nI (show lc * 5 + 2 < 60 by omega) (by omega)) dX2_addLaw_47 (fun H locs hP hD hS => ?_)
    have hP : va_P (dC, dI) vwCl [(s0, .inr (2, [.int (nI ov), .int (nI st), .int (nI tk), .int (nI gv), .int hc, .int ew, .int sl, .int ca, .int (nI lc), .ref s1, .ref s2])), (s1, .inl (ks1, 24, .inl rm)), (s2, .inl (ks2, 60, .inl (upd f_2 (nI (lc * 5 + 2)).toNatClampNeg (kd))))] H := hP
    have hD : va_D A [(s0, .inr (2, [.int (nI ov), .int (nI st), .int (nI tk), .int (nI gv), .int hc, .int ew, .int sl, .int ca, .int (nI lc), .ref s1, .ref s2])), (s1, .inl (ks1, 24, .inl rm)), (s2, .inl (ks2, 60, .inl (upd f_2 (nI (lc * 5 + 2)).toNatClampNeg (kd))))] := hD
    generalize ef_3 : upd f_2 (nI (lc * 5 + 2)).toNatClampNeg (kd) = f_3 at hP hD
    clear ef_3
    refine lv_aload_n hx hb dX2_addLaw_48 rfl (lv_at hl 1 rfl) ?_
    refine va_get (D := (dC, dI)) (ci := 2) (v := .ref s2) (C := RX2) (T := TX2) (N := 11) hx hb hts inX2 hown hK hP 0 rfl rfl 10 (by decide) (hts (.fieldLink RX2 22 "StoreSlopes$State" "laws" "[I") (List.mem_of_getElem? (i := 2) rfl)) (fun _ h9 => h9) rfl dX2_addLaw_49 ?_
    refine lv_iload hx hb dX2_addLaw_52 (lv_at hl 0 rfl) ?_
    refine lv_iconst (v := nI 3) hx hb dX2_addLaw_54 (by decide) ?_
    refine lv_iadd hx hb dX2_addLaw_55 ?_
    refine tp_as (nI_add (lc * 5) 3) ?_
    refine lv_iload hx hb dX2_addLaw_56 (lv_at hl 5 rfl) ?_
    refine va_iast hx hb hK hP hD hS 2 1 rfl rfl (vp_in_nI (show lc * 5 + 3 < 60 by omega) (by omega)) dX2_addLaw_58 (fun H locs hP hD hS => ?_)
    have hP : va_P (dC, dI) vwCl [(s0, .inr (2, [.int (nI ov), .int (nI st), .int (nI tk), .int (nI gv), .int hc, .int ew, .int sl, .int ca, .int (nI lc), .ref s1, .ref s2])), (s1, .inl (ks1, 24, .inl rm)), (s2, .inl (ks2, 60, .inl (upd f_3 (nI (lc * 5 + 3)).toNatClampNeg (a))))] H := hP
    have hD : va_D A [(s0, .inr (2, [.int (nI ov), .int (nI st), .int (nI tk), .int (nI gv), .int hc, .int ew, .int sl, .int ca, .int (nI lc), .ref s1, .ref s2])), (s1, .inl (ks1, 24, .inl rm)), (s2, .inl (ks2, 60, .inl (upd f_3 (nI (lc * 5 + 3)).toNatClampNeg (a))))] := hD
    generalize ef_4 : upd f_3 (nI (lc * 5 + 3)).toNatClampNeg (a) = f_4 at hP hD
    clear ef_4
    refine lv_aload_n hx hb dX2_addLaw_59 rfl (lv_at hl 1 rfl) ?_
    refine va_get (D := (dC, dI)) (ci := 2) (v := .ref s2) (C := RX2) (T := TX2) (N := 11) hx hb hts inX2 hown hK hP 0 rfl rfl 10 (by decide) (hts (.fieldLink RX2 22 "StoreSlopes$State" "laws" "[I") (List.mem_of_getElem? (i := 2) rfl)) (fun _ h9 => h9) rfl dX2_addLaw_60 ?_
    refine lv_iload hx hb dX2_addLaw_63 (lv_at hl 0 rfl) ?_
    refine lv_iconst (v := nI 4) hx hb dX2_addLaw_65 (by decide) ?_
    refine lv_iadd hx hb dX2_addLaw_66 ?_
    refine tp_as (nI_add (lc * 5) 4) ?_
    refine lv_iload hx hb dX2_addLaw_67 (lv_at hl 6 rfl) ?_
    refine va_iast hx hb hK hP hD hS 2 1 rfl rfl (vp_in_nI (show lc * 5 + 4 < 60 by omega) (by omega)) dX2_addLaw_69 (fun H locs hP hD hS => ?_)
    have hP : va_P (dC, dI) vwCl [(s0, .inr (2, [.int (nI ov), .int (nI st), .int (nI tk), .int (nI gv), .int hc, .int ew, .int sl, .int ca, .int (nI lc), .ref s1, .ref s2])), (s1, .inl (ks1, 24, .inl rm)), (s2, .inl (ks2, 60, .inl (upd f_4 (nI (lc * 5 + 4)).toNatClampNeg (b))))] H := hP
    have hD : va_D A [(s0, .inr (2, [.int (nI ov), .int (nI st), .int (nI tk), .int (nI gv), .int hc, .int ew, .int sl, .int ca, .int (nI lc), .ref s1, .ref s2])), (s1, .inl (ks1, 24, .inl rm)), (s2, .inl (ks2, 60, .inl (upd f_4 (nI (lc * 5 + 4)).toNatClampNeg (b))))] := hD
    generalize ef_5 : upd f_4 (nI (lc * 5 + 4)).toNatClampNeg (b) = f_5 at hP hD
    clear ef_5
    refine lv_aload_n hx hb dX2_addLaw_70 rfl (lv_at hl 1 rfl) ?_
    refine lv_dup hx hb dX2_addLaw_71 rfl ?_
    refine va_get (D := (dC, dI)) (ci := 2) (v := .int (nI lc)) (C := RX2) (T := TX2) (N := 11) hx hb hts inX2 hown hK hP 0 rfl rfl 8 (by decide) (hts (.fieldLink RX2 29 "StoreSlopes$State" "lawCount" "I") (List.mem_of_getElem? (i := 1) rfl)) (fun _ h9 => h9) rfl dX2_addLaw_72 ?_
    refine lv_iconst (v := nI 1) hx hb dX2_addLaw_75 (by decide) ?_
    refine lv_iadd hx hb dX2_addLaw_76 ?_
    refine tp_as (nI_add lc 1) ?_
    refine va_put (D := (dC, dI)) (ci := 2) (v := .int (nI (lc + 1))) (ty := .int) (C := RX2) (T := TX2) (N := 11) hx hb hts inX2 tyX2 tyX2_ok nmX2 hown hK hP hD hS 0 rfl rfl 8 (by decide) (hts (.fieldLink RX2 29 "StoreSlopes$State" "lawCount" "I") (List.mem_of_getElem? (i := 1) rfl)) (fun _ h9 => h9) rfl (by decide +kernel) rfl rfl (Nat.le_of_ble_eq_true rfl) dX2_addLaw_77 (fun H locs hP hD hS => ?_)
    have hP : va_P (dC, dI) vwCl [(s0, .inr (2, [.int (nI ov), .int (nI st), .int (nI tk), .int (nI gv), .int hc, .int ew, .int sl, .int ca, .int (nI (lc + 1)), .ref s1, .ref s2])), (s1, .inl (ks1, 24, .inl rm)), (s2, .inl (ks2, 60, .inl f_5))] H := hP
    have hD : va_D A [(s0, .inr (2, [.int (nI ov), .int (nI st), .int (nI tk), .int (nI gv), .int hc, .int ew, .int sl, .int ca, .int (nI (lc + 1)), .ref s1, .ref s2])), (s1, .inl (ks1, 24, .inl rm)), (s2, .inl (ks2, 60, .inl f_5))] := hD
    subst hQe
    have hP9 := hP.sub (ws' := [(s0, .inr (2, [.int (nI ov), .int (nI st), .int (nI tk), .int (nI gv), .int hc, .int ew, .int sl, .int ca, .int (nI (lc + 1)), .ref s1, .ref s2])), (s1, .inl (ks1, 24, .inl rm)), (s2, .inl (ks2, 60, .inl f_5))]) [0, 1, 2] rfl
    have hD9 := hD.sub (ws' := [(s0, .inr (2, [.int (nI ov), .int (nI st), .int (nI tk), .int (nI gv), .int hc, .int ew, .int sl, .int ca, .int (nI (lc + 1)), .ref s1, .ref s2])), (s1, .inl (ks1, 24, .inl rm)), (s2, .inl (ks2, 60, .inl f_5))]) [0, 1, 2] (by decide) rfl
    have hK9 := hK.sub (tys' := [(ks1, .int), (ks2, .int)]) [0, 1] rfl
    subst hAe
    exact W.vret hx hb hr (fun t ht hW => ⟨⟨(), rfl, trivial, (lc + 1), f_5, (by first | assumption | omega), by rw [ht]; exact hP9, va_K.moved hW.alike hK9, hD9⟩, hS.F ht⟩) hS.2.2 dX2_addLaw_80
  · have c_6 := (not_congr (nI_ltI (by omega : lc < 2 ^ 31) (by omega : 12 < 2 ^ 31))).mp c_6
    subst hQe
    have hP9 := hP.sub (ws' := [(s0, .inr (2, [.int (nI ov), .int (nI st), .int (nI tk), .int (nI gv), .int hc, .int ew, .int sl, .int ca, .int (nI lc), .ref s1, .ref s2])), (s1, .inl (ks1, 24, .inl rm)), (s2, .inl (ks2, 60, .inl lw))]) [0, 1, 2] rfl
    have hD9 := hD.sub (ws' := [(s0, .inr (2, [.int (nI ov), .int (nI st), .int (nI tk), .int (nI gv), .int hc, .int ew, .int sl, .int ca, .int (nI lc), .ref s1, .ref s2])), (s1, .inl (ks1, 24, .inl rm)), (s2, .inl (ks2, 60, .inl lw))]) [0, 1, 2] (by decide) rfl
    have hK9 := hK.sub (tys' := [(ks1, .int), (ks2, .int)]) [0, 1] rfl
    subst hAe
    exact W.vret hx hb hr (fun t ht hW => ⟨⟨(), rfl, trivial, lc, lw, (by first | assumption | omega), by rw [ht]; exact hP9, va_K.moved hW.alike hK9, hD9⟩, hS.F ht⟩) hS.2.2 dX2_addLaw_9
set_option maxHeartbeats 4000000 in
set_option maxRecDepth 100000 in
theorem c_X2_removeLaw (l : Launch) (dC : Nat → ClassId) (dI : Nat → Nat → Nat) (s0 s1 s2 : Nat) (ks1 ks2 : ClassId) (sz : Nat) (ov : Nat) (st : Nat) (tk : Nat) (gv : Nat) (hc : Int32) (ew : Int32) (sl : Int32) (ca : Int32) (lc : Nat) (rm : Nat → Int32) (lw : Nat → Int32) (k : Int32) (i0 : ov ≤ 24) (i1 : st ≤ 60) (i2 : tk ≤ 9) (i3 : gv ≤ 9) (i4 : lc ≤ 12) (i5 : bdA 60 24 rm) : Met l yX2_removeLaw wsX2_removeLaw ({ frames := 1, cells := 0, slots := 0, locals := 26 }) (va_Pc [.ref s0, .int k] (fun U => U.heap.size = sz ∧ va_P (dC, dI) vwCl [(s0, .inr (2, [.int (nI ov), .int (nI st), .int (nI tk), .int (nI gv), .int hc, .int ew, .int sl, .int ca, .int (nI lc), .ref s1, .ref s2])), (s1, .inl (ks1, 24, .inl rm)), (s2, .inl (ks2, 60, .inl lw))] U.heap ∧ va_K (dC, dI) vwCl [(ks1, .int), (ks2, .int)] U ∧ va_D (fun _ => True) [(s0, .inr (2, [.int (nI ov), .int (nI st), .int (nI tk), .int (nI gv), .int hc, .int ew, .int sl, .int ca, .int (nI lc), .ref s1, .ref s2])), (s1, .inl (ks1, 24, .inl rm)), (s2, .inl (ks2, 60, .inl lw))])) (va_Qv (fun _ : Unit => True) (fun _ t => ∃ (lc' : Nat) (lw' : Nat → Int32), lc' ≤ 12 ∧ va_P (dC, dI) vwCl [(s0, .inr (2, [.int (nI ov), .int (nI st), .int (nI tk), .int (nI gv), .int hc, .int ew, .int sl, .int ca, .int (nI lc'), .ref s1, .ref s2])), (s1, .inl (ks1, 24, .inl rm)), (s2, .inl (ks2, 60, .inl lw'))] t.heap ∧ va_K (dC, dI) vwCl [(ks1, .int), (ks2, .int)] t ∧ va_D (va_A [(s0, .inr (2, [.int (nI ov), .int (nI st), .int (nI tk), .int (nI gv), .int hc, .int ew, .int sl, .int ca, .int (nI lc), .ref s1, .ref s2])), (s1, .inl (ks1, 24, .inl rm)), (s2, .inl (ks2, 60, .inl lw))] sz) [(s0, .inr (2, [.int (nI ov), .int (nI st), .int (nI tk), .int (nI gv), .int hc, .int ew, .int sl, .int ca, .int (nI lc'), .ref s1, .ref s2])), (s1, .inl (ks1, 24, .inl rm)), (s2, .inl (ks2, 60, .inl lw'))]) (va_A [(s0, .inr (2, [.int (nI ov), .int (nI st), .int (nI tk), .int (nI gv), .int hc, .int ew, .int sl, .int ca, .int (nI lc), .ref s1, .ref s2])), (s1, .inl (ks1, 24, .inl rm)), (s2, .inl (ks2, 60, .inl lw))] sz)) 0 0 (va_A [(s0, .inr (2, [.int (nI ov), .int (nI st), .int (nI tk), .int (nI gv), .int hc, .int ew, .int sl, .int ca, .int (nI lc), .ref s1, .ref s2])), (s1, .inl (ks1, 24, .inl rm)), (s2, .inl (ks2, 60, .inl lw))] sz) := by
  refine Met.ofW (cc := cX2_removeLaw) (maxL := 3) (ret := none) (by decide) rfl ?_
  intro p e s m args below meth c s₁ B hml hv
  obtain ⟨rfl, hsz, hP, hK, hD0⟩ := hv
  have hx := B.exec
  have hb := B.bytes
  have hr := B.returns
  have hts := atoms_spec (ws := wsX2_removeLaw) B.pre
  have hown : s.vm.findClass RX2 = some m.cls := findClass_of_methodNamed B.named
  have hlocks := B.notSynchronized
  have inX2 : ∀ w ∈ wsX20, w ∈ wsX2_removeLaw := fun _ h => List.mem_cons_of_mem _ (List.mem_append_right _ h)
  subst hsz
  have hD := hD0.self (sz := s.heap.size)
  generalize hAe : va_A [(s0, .inr (2, [.int (nI ov), .int (nI st), .int (nI tk), .int (nI gv), .int hc, .int ew, .int sl, .int ca, .int (nI lc), .ref s1, .ref s2])), (s1, .inl (ks1, 24, .inl rm)), (s2, .inl (ks2, 60, .inl lw))] s.heap.size = A at hD ⊢
  have hA : ∀ q : Nat, s.heap.size ≤ q → A q := fun q h => by rw [← hAe]; exact Or.inr h
  have hS : va_S A s.heap s.heap [] := va_S.rf
  have hl := lv_entry ([.ref s0, .int k]) (n := 3) (Nat.le_of_ble_eq_true rfl)
  rw [lg_entry_eq]
  generalize (lg_sl ([.ref s0, .int k]) ++ List.replicate (3 - (lg_sl ([.ref s0, .int k])).length) Slot.unset).toArray = ls at hl ⊢
  generalize hQe : MQ below _ _ s 0 0 _ = Q
  generalize ([.ref s0, .int k] : List Value).toArray = args at hts hQe ⊢
  have hl : lv_has ls 3 [(0, .ref s0), (1, .int k)] := hl
  refine lv_iload_n hx hb dX2_removeLaw_0 rfl (lv_at hl 1 rfl) ?_
  refine lv_if_lt (tgt := 12) hx hb dX2_removeLaw_1 (by decide) (fun c_1 => ?_) (fun c_1 => ?_)
  · subst hQe
    have hP9 := hP.sub (ws' := [(s0, .inr (2, [.int (nI ov), .int (nI st), .int (nI tk), .int (nI gv), .int hc, .int ew, .int sl, .int ca, .int (nI lc), .ref s1, .ref s2])), (s1, .inl (ks1, 24, .inl rm)), (s2, .inl (ks2, 60, .inl lw))]) [0, 1, 2] rfl
    have hD9 := hD.sub (ws' := [(s0, .inr (2, [.int (nI ov), .int (nI st), .int (nI tk), .int (nI gv), .int hc, .int ew, .int sl, .int ca, .int (nI lc), .ref s1, .ref s2])), (s1, .inl (ks1, 24, .inl rm)), (s2, .inl (ks2, 60, .inl lw))]) [0, 1, 2] (by decide) rfl
    have hK9 := hK.sub (tys' := [(ks1, .int), (ks2, .int)]) [0, 1] rfl
    subst hAe
    exact W.vret hx hb hr (fun t ht hW => ⟨⟨(), rfl, trivial, lc, lw, (by first | assumption | omega), by rw [ht]; exact hP9, va_K.moved hW.alike hK9, hD9⟩, hS.F ht⟩) hS.2.2 dX2_removeLaw_12
  · refine lv_iload_n hx hb dX2_removeLaw_4 rfl (lv_at hl 1 rfl) ?_
    refine lv_aload_n hx hb dX2_removeLaw_5 rfl (lv_at hl 0 rfl) ?_
    refine va_get (D := (dC, dI)) (ci := 2) (v := .int (nI lc)) (C := RX2) (T := TX2) (N := 11) hx hb hts inX2 hown hK hP 0 rfl rfl 8 (by decide) (hts (.fieldLink RX2 29 "StoreSlopes$State" "lawCount" "I") (List.mem_of_getElem? (i := 1) rfl)) (fun _ h9 => h9) rfl dX2_removeLaw_6 ?_
    refine lv_icmp_lt (tgt := 13) hx hb dX2_removeLaw_9 (by decide) (fun c_9 => ?_) (fun c_9 => ?_)
    · obtain ⟨j_1, hj_1, rfl⟩ := x_lt2 (by omega) c_1 c_9
      refine lv_iload_n hx hb dX2_removeLaw_13 rfl (lv_at hl 1 rfl) ?_
      refine lv_iconst (v := nI 1) hx hb dX2_removeLaw_14 (by decide) ?_
      refine lv_iadd hx hb dX2_removeLaw_15 ?_
      refine tp_as (nI_add j_1 1) ?_
      refine lv_iconst (v := nI 5) hx hb dX2_removeLaw_16 (by decide) ?_
      refine lv_imul hx hb dX2_removeLaw_17 ?_
      refine tp_as (pk_mul (j_1 + 1) 5) ?_
      refine lv_istore_n (lv' := [(2, .int (nI ((j_1 + 1) * 5))), (0, .ref s0), (1, .int (nI j_1))]) hx hb dX2_removeLaw_18 rfl hl (by decide) rfl (fun ls hl => ?_)
      refine lv_aload_n hx hb dX2_removeLaw_19 rfl (lv_at hl 1 rfl) ?_
      refine va_get (D := (dC, dI)) (ci := 2) (v := .ref s2) (C := RX2) (T := TX2) (N := 11) hx hb hts inX2 hown hK hP 0 rfl rfl 10 (by decide) (hts (.fieldLink RX2 22 "StoreSlopes$State" "laws" "[I") (List.mem_of_getElem? (i := 2) rfl)) (fun _ h9 => h9) rfl dX2_removeLaw_20 ?_
      refine lv_iload_n hx hb dX2_removeLaw_23 rfl (lv_at hl 0 rfl) ?_
      refine lv_aload_n hx hb dX2_removeLaw_24 rfl (lv_at hl 1 rfl) ?_
      refine va_get (D := (dC, dI)) (ci := 2) (v := .ref s2) (C := RX2) (T := TX2) (N := 11) hx hb hts inX2 hown hK hP 0 rfl rfl 10 (by decide) (hts (.fieldLink RX2 22 "StoreSlopes$State" "laws" "[I") (List.mem_of_getElem? (i := 2) rfl)) (fun _ h9 => h9) rfl dX2_removeLaw_25 ?_
      refine lv_iload_n hx hb dX2_removeLaw_28 rfl (lv_at hl 0 rfl) ?_
      refine lv_iconst (v := nI 5) hx hb dX2_removeLaw_29 (by decide) ?_
      refine lv_isub hx hb dX2_removeLaw_30 ?_
      refine tp_as (pk_sub (a := (j_1 + 1) * 5) (b := 5) (by omega)) ?_
      refine lv_aload_n hx hb dX2_removeLaw_31 rfl (lv_at hl 1 rfl) ?_
      refine va_get (D := (dC, dI)) (ci := 2) (v := .int (nI lc)) (C := RX2) (T := TX2) (N := 11) hx hb hts inX2 hown hK hP 0 rfl rfl 8 (by decide) (hts (.fieldLink RX2 29 "StoreSlopes$State" "lawCount" "I") (List.mem_of_getElem? (i := 1) rfl)) (fun _ h9 => h9) rfl dX2_removeLaw_32 ?_
      refine lv_iconst (v := nI 5) hx hb dX2_removeLaw_35 (by decide) ?_
      refine lv_imul hx hb dX2_removeLaw_36 ?_
      refine tp_as (pk_mul lc 5) ?_
      refine lv_iload_n hx hb dX2_removeLaw_37 rfl (lv_at hl 0 rfl) ?_
      refine lv_isub hx hb dX2_removeLaw_38 ?_
      refine tp_as (pk_sub (a := lc * 5) (b := (j_1 + 1) * 5) (by omega)) ?_
      refine va_copyi hx hb (hml.trans hl.1.symm) (own := RX2) hown (hts (.methodLink RX2 49 arraycopyName) (List.mem_of_getElem? (i := 3) rfl)) (hts (.native arraycopyName) (List.mem_of_getElem? (i := 4) rfl)) (hts (.static arraycopyName) (List.mem_of_getElem? (i := 5) rfl)) (hts (.initialized "java/lang/System") (List.mem_of_getElem? (i := 6) rfl)) hK hP hD hS 2 2 1 1 rfl rfl rfl rfl rfl (nI_pos (by omega)) (nI_pos (by omega)) (nI_pos (by omega)) (by rw [nI_clamp (by omega), nI_clamp (by omega)]; omega) (by rw [nI_clamp (by omega), nI_clamp (by omega)]; omega) (fun _ _ => rfl) (Nat.le_of_ble_eq_true rfl) (Nat.le_of_ble_eq_true rfl) dX2_removeLaw_39 (fun H locs hP hD hS => ?_)
      have hP : va_P (dC, dI) vwCl [(s0, .inr (2, [.int (nI ov), .int (nI st), .int (nI tk), .int (nI gv), .int hc, .int ew, .int sl, .int ca, .int (nI lc), .ref s1, .ref s2])), (s1, .inl (ks1, 24, .inl rm)), (s2, .inl (ks2, 60, .inl (va_cpy lw lw (nI ((j_1 + 1) * 5)).toNatClampNeg (nI (((j_1 + 1) * 5) - 5)).toNatClampNeg (nI ((lc * 5) - ((j_1 + 1) * 5))).toNatClampNeg)))] H := hP
      have hD : va_D A [(s0, .inr (2, [.int (nI ov), .int (nI st), .int (nI tk), .int (nI gv), .int hc, .int ew, .int sl, .int ca, .int (nI lc), .ref s1, .ref s2])), (s1, .inl (ks1, 24, .inl rm)), (s2, .inl (ks2, 60, .inl (va_cpy lw lw (nI ((j_1 + 1) * 5)).toNatClampNeg (nI (((j_1 + 1) * 5) - 5)).toNatClampNeg (nI ((lc * 5) - ((j_1 + 1) * 5))).toNatClampNeg)))] := hD
      rw [nI_clamp (show (j_1 + 1) * 5 < 2 ^ 31 by omega), nI_clamp (show ((j_1 + 1) * 5) - 5 < 2 ^ 31 by omega), nI_clamp (show (lc * 5) - ((j_1 + 1) * 5) < 2 ^ 31 by omega)] at hP hD
      generalize ef_2 : va_cpy lw lw ((j_1 + 1) * 5) (((j_1 + 1) * 5) - 5) ((lc * 5) - ((j_1 + 1) * 5)) = f_2 at hP hD
      refine lv_aload_n hx hb dX2_removeLaw_42 rfl (lv_at hl 1 rfl) ?_
      refine lv_dup hx hb dX2_removeLaw_43 rfl ?_
      refine va_get (D := (dC, dI)) (ci := 2) (v := .int (nI lc)) (C := RX2) (T := TX2) (N := 11) hx hb hts inX2 hown hK hP 0 rfl rfl 8 (by decide) (hts (.fieldLink RX2 29 "StoreSlopes$State" "lawCount" "I") (List.mem_of_getElem? (i := 1) rfl)) (fun _ h9 => h9) rfl dX2_removeLaw_44 ?_
      refine lv_iconst (v := nI 1) hx hb dX2_removeLaw_47 (by decide) ?_
      refine lv_isub hx hb dX2_removeLaw_48 ?_
      refine tp_as (pk_sub (a := lc) (b := 1) (by omega)) ?_
      refine va_put (D := (dC, dI)) (ci := 2) (v := .int (nI (lc - 1))) (ty := .int) (C := RX2) (T := TX2) (N := 11) hx hb hts inX2 tyX2 tyX2_ok nmX2 hown hK hP hD hS 0 rfl rfl 8 (by decide) (hts (.fieldLink RX2 29 "StoreSlopes$State" "lawCount" "I") (List.mem_of_getElem? (i := 1) rfl)) (fun _ h9 => h9) rfl (by decide +kernel) rfl rfl (Nat.le_of_ble_eq_true rfl) dX2_removeLaw_49 (fun H locs hP hD hS => ?_)
      have hP : va_P (dC, dI) vwCl [(s0, .inr (2, [.int (nI ov), .int (nI st), .int (nI tk), .int (nI gv), .int hc, .int ew, .int sl, .int ca, .int (nI (lc - 1)), .ref s1, .ref s2])), (s1, .inl (ks1, 24, .inl rm)), (s2, .inl (ks2, 60, .inl f_2))] H := hP
      have hD : va_D A [(s0, .inr (2, [.int (nI ov), .int (nI st), .int (nI tk), .int (nI gv), .int hc, .int ew, .int sl, .int ca, .int (nI (lc - 1)), .ref s1, .ref s2])), (s1, .inl (ks1, 24, .inl rm)), (s2, .inl (ks2, 60, .inl f_2))] := hD
      subst hQe
      have hP9 := hP.sub (ws' := [(s0, .inr (2, [.int (nI ov), .int (nI st), .int (nI tk), .int (nI gv), .int hc, .int ew, .int sl, .int ca, .int (nI (lc - 1)), .ref s1, .ref s2])), (s1, .inl (ks1, 24, .inl rm)), (s2, .inl (ks2, 60, .inl f_2))]) [0, 1, 2] rfl
      have hD9 := hD.sub (ws' := [(s0, .inr (2, [.int (nI ov), .int (nI st), .int (nI tk), .int (nI gv), .int hc, .int ew, .int sl, .int ca, .int (nI (lc - 1)), .ref s1, .ref s2])), (s1, .inl (ks1, 24, .inl rm)), (s2, .inl (ks2, 60, .inl f_2))]) [0, 1, 2] (by decide) rfl
      have hK9 := hK.sub (tys' := [(ks1, .int), (ks2, .int)]) [0, 1] rfl
      subst hAe
      exact W.vret hx hb hr (fun t ht hW => ⟨⟨(), rfl, trivial, (lc - 1), f_2, (by first | assumption | omega), by rw [ht]; exact hP9, va_K.moved hW.alike hK9, hD9⟩, hS.F ht⟩) hS.2.2 dX2_removeLaw_52
    · subst hQe
      have hP9 := hP.sub (ws' := [(s0, .inr (2, [.int (nI ov), .int (nI st), .int (nI tk), .int (nI gv), .int hc, .int ew, .int sl, .int ca, .int (nI lc), .ref s1, .ref s2])), (s1, .inl (ks1, 24, .inl rm)), (s2, .inl (ks2, 60, .inl lw))]) [0, 1, 2] rfl
      have hD9 := hD.sub (ws' := [(s0, .inr (2, [.int (nI ov), .int (nI st), .int (nI tk), .int (nI gv), .int hc, .int ew, .int sl, .int ca, .int (nI lc), .ref s1, .ref s2])), (s1, .inl (ks1, 24, .inl rm)), (s2, .inl (ks2, 60, .inl lw))]) [0, 1, 2] (by decide) rfl
      have hK9 := hK.sub (tys' := [(ks1, .int), (ks2, .int)]) [0, 1] rfl
      subst hAe
      exact W.vret hx hb hr (fun t ht hW => ⟨⟨(), rfl, trivial, lc, lw, (by first | assumption | omega), by rw [ht]; exact hP9, va_K.moved hW.alike hK9, hD9⟩, hS.F ht⟩) hS.2.2 dX2_removeLaw_12
set_option maxHeartbeats 4000000 in
set_option maxRecDepth 100000 in
theorem c_X2_write (l : Launch) (dC : Nat → ClassId) (dI : Nat → Nat → Nat) (s0 s1 s2 c0 : Nat) (ks1 ks2 kc : ClassId) (sz : Nat) (ov : Nat) (st : Nat) (tk : Nat) (gv : Nat) (hc : Int32) (ew : Int32) (sl : Int32) (ca : Int32) (lc : Nat) (rm : Nat → Int32) (lw : Nat → Int32) (N : Nat) (cg : Nat → Int32) (a : Nat) (i0 : ov ≤ 24) (i1 : st ≤ 60) (i2 : tk ≤ 9) (i3 : gv ≤ 9) (i4 : lc ≤ 12) (i5 : bdA 60 24 rm) (g0 : a + 93 ≤ N) (g1 : N < 2 ^ 31) : Met l yX2_write wsX2_write ({ frames := 1, cells := 0, slots := 0, locals := 26 }) (va_Pc [.ref s0, .ref c0, .int (nI a)] (fun U => U.heap.size = sz ∧ va_P (dC, dI) vwCl [(s0, .inr (2, [.int (nI ov), .int (nI st), .int (nI tk), .int (nI gv), .int hc, .int ew, .int sl, .int ca, .int (nI lc), .ref s1, .ref s2])), (s1, .inl (ks1, 24, .inl rm)), (s2, .inl (ks2, 60, .inl lw)), (c0, .inl (kc, N, .inl cg))] U.heap ∧ va_K (dC, dI) vwCl [(ks1, .int), (ks2, .int), (kc, .int)] U ∧ va_D (fun _ => True) [(s0, .inr (2, [.int (nI ov), .int (nI st), .int (nI tk), .int (nI gv), .int hc, .int ew, .int sl, .int ca, .int (nI lc), .ref s1, .ref s2])), (s1, .inl (ks1, 24, .inl rm)), (s2, .inl (ks2, 60, .inl lw)), (c0, .inl (kc, N, .inl cg))])) (va_Qv (fun _ : Unit => True) (fun _ t => ∃ (cg' : Nat → Int32), okSt cg' a ∧ (∀ q : Nat, q < a ∨ a + 93 ≤ q → cg' q = cg q) ∧ va_P (dC, dI) vwCl [(s0, .inr (2, [.int (nI ov), .int (nI st), .int (nI tk), .int (nI gv), .int hc, .int ew, .int sl, .int ca, .int (nI lc), .ref s1, .ref s2])), (s1, .inl (ks1, 24, .inl rm)), (s2, .inl (ks2, 60, .inl lw)), (c0, .inl (kc, N, .inl cg'))] t.heap ∧ va_K (dC, dI) vwCl [(ks1, .int), (ks2, .int), (kc, .int)] t ∧ va_D (va_A [(s0, .inr (2, [.int (nI ov), .int (nI st), .int (nI tk), .int (nI gv), .int hc, .int ew, .int sl, .int ca, .int (nI lc), .ref s1, .ref s2])), (s1, .inl (ks1, 24, .inl rm)), (s2, .inl (ks2, 60, .inl lw)), (c0, .inl (kc, N, .inl cg))] sz) [(s0, .inr (2, [.int (nI ov), .int (nI st), .int (nI tk), .int (nI gv), .int hc, .int ew, .int sl, .int ca, .int (nI lc), .ref s1, .ref s2])), (s1, .inl (ks1, 24, .inl rm)), (s2, .inl (ks2, 60, .inl lw)), (c0, .inl (kc, N, .inl cg'))]) (va_A [(s0, .inr (2, [.int (nI ov), .int (nI st), .int (nI tk), .int (nI gv), .int hc, .int ew, .int sl, .int ca, .int (nI lc), .ref s1, .ref s2])), (s1, .inl (ks1, 24, .inl rm)), (s2, .inl (ks2, 60, .inl lw)), (c0, .inl (kc, N, .inl cg))] sz)) 0 0 (va_A [(s0, .inr (2, [.int (nI ov), .int (nI st), .int (nI tk), .int (nI gv), .int hc, .int ew, .int sl, .int ca, .int (nI lc), .ref s1, .ref s2])), (s1, .inl (ks1, 24, .inl rm)), (s2, .inl (ks2, 60, .inl lw)), (c0, .inl (kc, N, .inl cg))] sz) := by
  refine Met.ofW (cc := cX2_write) (maxL := 3) (ret := none) (by decide) rfl ?_
  intro p e s m args below meth c s₁ B hml hv
  obtain ⟨rfl, hsz, hP, hK, hD0⟩ := hv
  have hx := B.exec
  have hb := B.bytes
  have hr := B.returns
  have hts := atoms_spec (ws := wsX2_write) B.pre
  have hown : s.vm.findClass RX2 = some m.cls := findClass_of_methodNamed B.named
  have hlocks := B.notSynchronized
  have inX2 : ∀ w ∈ wsX20, w ∈ wsX2_write := fun _ h => List.mem_cons_of_mem _ (List.mem_append_right _ h)
  subst hsz
  have hD := hD0.self (sz := s.heap.size)
  generalize hAe : va_A [(s0, .inr (2, [.int (nI ov), .int (nI st), .int (nI tk), .int (nI gv), .int hc, .int ew, .int sl, .int ca, .int (nI lc), .ref s1, .ref s2])), (s1, .inl (ks1, 24, .inl rm)), (s2, .inl (ks2, 60, .inl lw)), (c0, .inl (kc, N, .inl cg))] s.heap.size = A at hD ⊢
  have hA : ∀ q : Nat, s.heap.size ≤ q → A q := fun q h => by rw [← hAe]; exact Or.inr h
  have hS : va_S A s.heap s.heap [] := va_S.rf
  have hl := lv_entry ([.ref s0, .ref c0, .int (nI a)]) (n := 3) (Nat.le_of_ble_eq_true rfl)
  rw [lg_entry_eq]
  generalize (lg_sl ([.ref s0, .ref c0, .int (nI a)]) ++ List.replicate (3 - (lg_sl ([.ref s0, .ref c0, .int (nI a)])).length) Slot.unset).toArray = ls at hl ⊢
  generalize hQe : MQ below _ _ s 0 0 _ = Q
  generalize ([.ref s0, .ref c0, .int (nI a)] : List Value).toArray = args at hts hQe ⊢
  have hl : lv_has ls 3 [(0, .ref s0), (1, .ref c0), (2, .int (nI a))] := hl
  refine lv_aload_n hx hb dX2_write_0 rfl (lv_at hl 1 rfl) ?_
  refine lv_iload_n hx hb dX2_write_1 rfl (lv_at hl 2 rfl) ?_
  refine lv_aload_n hx hb dX2_write_2 rfl (lv_at hl 0 rfl) ?_
  refine va_get (D := (dC, dI)) (ci := 2) (v := .int (nI ov)) (C := RX2) (T := TX2) (N := 11) hx hb hts inX2 hown hK hP 0 rfl rfl 0 (by decide) (hts (.fieldLink RX2 55 "StoreSlopes$State" "over" "I") (List.mem_of_getElem? (i := 1) rfl)) (fun _ h9 => h9) rfl dX2_write_3 ?_
  refine va_iast hx hb hK hP hD hS 3 2 rfl rfl (vp_in_nI (show a < N by omega) (by omega)) dX2_write_6 (fun H locs hP hD hS => ?_)
  have hP : va_P (dC, dI) vwCl [(s0, .inr (2, [.int (nI ov), .int (nI st), .int (nI tk), .int (nI gv), .int hc, .int ew, .int sl, .int ca, .int (nI lc), .ref s1, .ref s2])), (s1, .inl (ks1, 24, .inl rm)), (s2, .inl (ks2, 60, .inl lw)), (c0, .inl (kc, N, .inl (upd cg (nI a).toNatClampNeg (nI ov))))] H := hP
  have hD : va_D A [(s0, .inr (2, [.int (nI ov), .int (nI st), .int (nI tk), .int (nI gv), .int hc, .int ew, .int sl, .int ca, .int (nI lc), .ref s1, .ref s2])), (s1, .inl (ks1, 24, .inl rm)), (s2, .inl (ks2, 60, .inl lw)), (c0, .inl (kc, N, .inl (upd cg (nI a).toNatClampNeg (nI ov))))] := hD
  generalize ef_1 : upd cg (nI a).toNatClampNeg (nI ov) = f_1 at hP hD
  refine lv_aload_n hx hb dX2_write_7 rfl (lv_at hl 1 rfl) ?_
  refine lv_iload_n hx hb dX2_write_8 rfl (lv_at hl 2 rfl) ?_
  refine lv_iconst (v := nI 1) hx hb dX2_write_9 (by decide) ?_
  refine lv_iadd hx hb dX2_write_10 ?_
  refine tp_as (nI_add a 1) ?_
  refine lv_aload_n hx hb dX2_write_11 rfl (lv_at hl 0 rfl) ?_
  refine va_get (D := (dC, dI)) (ci := 2) (v := .int (nI st)) (C := RX2) (T := TX2) (N := 11) hx hb hts inX2 hown hK hP 0 rfl rfl 1 (by decide) (hts (.fieldLink RX2 58 "StoreSlopes$State" "start" "I") (List.mem_of_getElem? (i := 2) rfl)) (fun _ h9 => h9) rfl dX2_write_12 ?_
  refine va_iast hx hb hK hP hD hS 3 2 rfl rfl (vp_in_nI (show a + 1 < N by omega) (by omega)) dX2_write_15 (fun H locs hP hD hS => ?_)
  have hP : va_P (dC, dI) vwCl [(s0, .inr (2, [.int (nI ov), .int (nI st), .int (nI tk), .int (nI gv), .int hc, .int ew, .int sl, .int ca, .int (nI lc), .ref s1, .ref s2])), (s1, .inl (ks1, 24, .inl rm)), (s2, .inl (ks2, 60, .inl lw)), (c0, .inl (kc, N, .inl (upd f_1 (nI (a + 1)).toNatClampNeg (nI st))))] H := hP
  have hD : va_D A [(s0, .inr (2, [.int (nI ov), .int (nI st), .int (nI tk), .int (nI gv), .int hc, .int ew, .int sl, .int ca, .int (nI lc), .ref s1, .ref s2])), (s1, .inl (ks1, 24, .inl rm)), (s2, .inl (ks2, 60, .inl lw)), (c0, .inl (kc, N, .inl (upd f_1 (nI (a + 1)).toNatClampNeg (nI st))))] := hD
  generalize ef_2 : upd f_1 (nI (a + 1)).toNatClampNeg (nI st) = f_2 at hP hD
  refine lv_aload_n hx hb dX2_write_16 rfl (lv_at hl 1 rfl) ?_
  refine lv_iload_n hx hb dX2_write_17 rfl (lv_at hl 2 rfl) ?_
  refine lv_iconst (v := nI 2) hx hb dX2_write_18 (by decide) ?_
  refine lv_iadd hx hb dX2_write_19 ?_
  refine tp_as (nI_add a 2) ?_
  refine lv_aload_n hx hb dX2_write_20 rfl (lv_at hl 0 rfl) ?_
  refine va_get (D := (dC, dI)) (ci := 2) (v := .int (nI tk)) (C := RX2) (T := TX2) (N := 11) hx hb hts inX2 hown hK hP 0 rfl rfl 2 (by decide) (hts (.fieldLink RX2 11 "StoreSlopes$State" "takes" "I") (List.mem_of_getElem? (i := 3) rfl)) (fun _ h9 => h9) rfl dX2_write_21 ?_
  refine va_iast hx hb hK hP hD hS 3 2 rfl rfl (vp_in_nI (show a + 2 < N by omega) (by omega)) dX2_write_24 (fun H locs hP hD hS => ?_)
  have hP : va_P (dC, dI) vwCl [(s0, .inr (2, [.int (nI ov), .int (nI st), .int (nI tk), .int (nI gv), .int hc, .int ew, .int sl, .int ca, .int (nI lc), .ref s1, .ref s2])), (s1, .inl (ks1, 24, .inl rm)), (s2, .inl (ks2, 60, .inl lw)), (c0, .inl (kc, N, .inl (upd f_2 (nI (a + 2)).toNatClampNeg (nI tk))))] H := hP
  have hD : va_D A [(s0, .inr (2, [.int (nI ov), .int (nI st), .int (nI tk), .int (nI gv), .int hc, .int ew, .int sl, .int ca, .int (nI lc), .ref s1, .ref s2])), (s1, .inl (ks1, 24, .inl rm)), (s2, .inl (ks2, 60, .inl lw)), (c0, .inl (kc, N, .inl (upd f_2 (nI (a + 2)).toNatClampNeg (nI tk))))] := hD
  generalize ef_3 : upd f_2 (nI (a + 2)).toNatClampNeg (nI tk) = f_3 at hP hD
  refine lv_aload_n hx hb dX2_write_25 rfl (lv_at hl 1 rfl) ?_
  refine lv_iload_n hx hb dX2_write_26 rfl (lv_at hl 2 rfl) ?_
  refine lv_iconst (v := nI 3) hx hb dX2_write_27 (by decide) ?_
  refine lv_iadd hx hb dX2_write_28 ?_
  refine tp_as (nI_add a 3) ?_
  refine lv_aload_n hx hb dX2_write_29 rfl (lv_at hl 0 rfl) ?_
  refine va_get (D := (dC, dI)) (ci := 2) (v := .int (nI gv)) (C := RX2) (T := TX2) (N := 11) hx hb hts inX2 hown hK hP 0 rfl rfl 3 (by decide) (hts (.fieldLink RX2 15 "StoreSlopes$State" "gives" "I") (List.mem_of_getElem? (i := 4) rfl)) (fun _ h9 => h9) rfl dX2_write_30 ?_
  refine va_iast hx hb hK hP hD hS 3 2 rfl rfl (vp_in_nI (show a + 3 < N by omega) (by omega)) dX2_write_33 (fun H locs hP hD hS => ?_)
  have hP : va_P (dC, dI) vwCl [(s0, .inr (2, [.int (nI ov), .int (nI st), .int (nI tk), .int (nI gv), .int hc, .int ew, .int sl, .int ca, .int (nI lc), .ref s1, .ref s2])), (s1, .inl (ks1, 24, .inl rm)), (s2, .inl (ks2, 60, .inl lw)), (c0, .inl (kc, N, .inl (upd f_3 (nI (a + 3)).toNatClampNeg (nI gv))))] H := hP
  have hD : va_D A [(s0, .inr (2, [.int (nI ov), .int (nI st), .int (nI tk), .int (nI gv), .int hc, .int ew, .int sl, .int ca, .int (nI lc), .ref s1, .ref s2])), (s1, .inl (ks1, 24, .inl rm)), (s2, .inl (ks2, 60, .inl lw)), (c0, .inl (kc, N, .inl (upd f_3 (nI (a + 3)).toNatClampNeg (nI gv))))] := hD
  generalize ef_4 : upd f_3 (nI (a + 3)).toNatClampNeg (nI gv) = f_4 at hP hD
  refine lv_aload_n hx hb dX2_write_34 rfl (lv_at hl 1 rfl) ?_
  refine lv_iload_n hx hb dX2_write_35 rfl (lv_at hl 2 rfl) ?_
  refine lv_iconst (v := nI 4) hx hb dX2_write_36 (by decide) ?_
  refine lv_iadd hx hb dX2_write_37 ?_
  refine tp_as (nI_add a 4) ?_
  refine lv_aload_n hx hb dX2_write_38 rfl (lv_at hl 0 rfl) ?_
  refine va_get (D := (dC, dI)) (ci := 2) (v := .int hc) (C := RX2) (T := TX2) (N := 11) hx hb hts inX2 hown hK hP 0 rfl rfl 4 (by decide) (hts (.fieldLink RX2 61 "StoreSlopes$State" "holdCost" "I") (List.mem_of_getElem? (i := 5) rfl)) (fun _ h9 => h9) rfl dX2_write_39 ?_
  refine va_iast hx hb hK hP hD hS 3 2 rfl rfl (vp_in_nI (show a + 4 < N by omega) (by omega)) dX2_write_42 (fun H locs hP hD hS => ?_)
  have hP : va_P (dC, dI) vwCl [(s0, .inr (2, [.int (nI ov), .int (nI st), .int (nI tk), .int (nI gv), .int hc, .int ew, .int sl, .int ca, .int (nI lc), .ref s1, .ref s2])), (s1, .inl (ks1, 24, .inl rm)), (s2, .inl (ks2, 60, .inl lw)), (c0, .inl (kc, N, .inl (upd f_4 (nI (a + 4)).toNatClampNeg (hc))))] H := hP
  have hD : va_D A [(s0, .inr (2, [.int (nI ov), .int (nI st), .int (nI tk), .int (nI gv), .int hc, .int ew, .int sl, .int ca, .int (nI lc), .ref s1, .ref s2])), (s1, .inl (ks1, 24, .inl rm)), (s2, .inl (ks2, 60, .inl lw)), (c0, .inl (kc, N, .inl (upd f_4 (nI (a + 4)).toNatClampNeg (hc))))] := hD
  generalize ef_5 : upd f_4 (nI (a + 4)).toNatClampNeg (hc) = f_5 at hP hD
  refine lv_aload_n hx hb dX2_write_43 rfl (lv_at hl 1 rfl) ?_
  refine lv_iload_n hx hb dX2_write_44 rfl (lv_at hl 2 rfl) ?_
  refine lv_iconst (v := nI 5) hx hb dX2_write_45 (by decide) ?_
  refine lv_iadd hx hb dX2_write_46 ?_
  refine tp_as (nI_add a 5) ?_
  refine lv_aload_n hx hb dX2_write_47 rfl (lv_at hl 0 rfl) ?_
  refine va_get (D := (dC, dI)) (ci := 2) (v := .int ew) (C := RX2) (T := TX2) (N := 11) hx hb hts inX2 hown hK hP 0 rfl rfl 5 (by decide) (hts (.fieldLink RX2 64 "StoreSlopes$State" "endWorth" "I") (List.mem_of_getElem? (i := 6) rfl)) (fun _ h9 => h9) rfl dX2_write_48 ?_
  refine va_iast hx hb hK hP hD hS 3 2 rfl rfl (vp_in_nI (show a + 5 < N by omega) (by omega)) dX2_write_51 (fun H locs hP hD hS => ?_)
  have hP : va_P (dC, dI) vwCl [(s0, .inr (2, [.int (nI ov), .int (nI st), .int (nI tk), .int (nI gv), .int hc, .int ew, .int sl, .int ca, .int (nI lc), .ref s1, .ref s2])), (s1, .inl (ks1, 24, .inl rm)), (s2, .inl (ks2, 60, .inl lw)), (c0, .inl (kc, N, .inl (upd f_5 (nI (a + 5)).toNatClampNeg (ew))))] H := hP
  have hD : va_D A [(s0, .inr (2, [.int (nI ov), .int (nI st), .int (nI tk), .int (nI gv), .int hc, .int ew, .int sl, .int ca, .int (nI lc), .ref s1, .ref s2])), (s1, .inl (ks1, 24, .inl rm)), (s2, .inl (ks2, 60, .inl lw)), (c0, .inl (kc, N, .inl (upd f_5 (nI (a + 5)).toNatClampNeg (ew))))] := hD
  generalize ef_6 : upd f_5 (nI (a + 5)).toNatClampNeg (ew) = f_6 at hP hD
  refine lv_aload_n hx hb dX2_write_52 rfl (lv_at hl 1 rfl) ?_
  refine lv_iload_n hx hb dX2_write_53 rfl (lv_at hl 2 rfl) ?_
  refine lv_bipush (v := nI 6) hx hb dX2_write_54 (by decide) ?_
  refine lv_iadd hx hb dX2_write_56 ?_
  refine tp_as (nI_add a 6) ?_
  refine lv_aload_n hx hb dX2_write_57 rfl (lv_at hl 0 rfl) ?_
  refine va_get (D := (dC, dI)) (ci := 2) (v := .int sl) (C := RX2) (T := TX2) (N := 11) hx hb hts inX2 hown hK hP 0 rfl rfl 6 (by decide) (hts (.fieldLink RX2 67 "StoreSlopes$State" "sellLoss" "I") (List.mem_of_getElem? (i := 7) rfl)) (fun _ h9 => h9) rfl dX2_write_58 ?_
  refine va_iast hx hb hK hP hD hS 3 2 rfl rfl (vp_in_nI (show a + 6 < N by omega) (by omega)) dX2_write_61 (fun H locs hP hD hS => ?_)
  have hP : va_P (dC, dI) vwCl [(s0, .inr (2, [.int (nI ov), .int (nI st), .int (nI tk), .int (nI gv), .int hc, .int ew, .int sl, .int ca, .int (nI lc), .ref s1, .ref s2])), (s1, .inl (ks1, 24, .inl rm)), (s2, .inl (ks2, 60, .inl lw)), (c0, .inl (kc, N, .inl (upd f_6 (nI (a + 6)).toNatClampNeg (sl))))] H := hP
  have hD : va_D A [(s0, .inr (2, [.int (nI ov), .int (nI st), .int (nI tk), .int (nI gv), .int hc, .int ew, .int sl, .int ca, .int (nI lc), .ref s1, .ref s2])), (s1, .inl (ks1, 24, .inl rm)), (s2, .inl (ks2, 60, .inl lw)), (c0, .inl (kc, N, .inl (upd f_6 (nI (a + 6)).toNatClampNeg (sl))))] := hD
  generalize ef_7 : upd f_6 (nI (a + 6)).toNatClampNeg (sl) = f_7 at hP hD
  refine lv_aload_n hx hb dX2_write_62 rfl (lv_at hl 1 rfl) ?_
  refine lv_iload_n hx hb dX2_write_63 rfl (lv_at hl 2 rfl) ?_
  refine lv_bipush (v := nI 7) hx hb dX2_write_64 (by decide) ?_
  refine lv_iadd hx hb dX2_write_66 ?_
  refine tp_as (nI_add a 7) ?_
  refine lv_aload_n hx hb dX2_write_67 rfl (lv_at hl 0 rfl) ?_
  refine va_get (D := (dC, dI)) (ci := 2) (v := .int ca) (C := RX2) (T := TX2) (N := 11) hx hb hts inX2 hown hK hP 0 rfl rfl 7 (by decide) (hts (.fieldLink RX2 70 "StoreSlopes$State" "cash" "I") (List.mem_of_getElem? (i := 8) rfl)) (fun _ h9 => h9) rfl dX2_write_68 ?_
  refine va_iast hx hb hK hP hD hS 3 2 rfl rfl (vp_in_nI (show a + 7 < N by omega) (by omega)) dX2_write_71 (fun H locs hP hD hS => ?_)
  have hP : va_P (dC, dI) vwCl [(s0, .inr (2, [.int (nI ov), .int (nI st), .int (nI tk), .int (nI gv), .int hc, .int ew, .int sl, .int ca, .int (nI lc), .ref s1, .ref s2])), (s1, .inl (ks1, 24, .inl rm)), (s2, .inl (ks2, 60, .inl lw)), (c0, .inl (kc, N, .inl (upd f_7 (nI (a + 7)).toNatClampNeg (ca))))] H := hP
  have hD : va_D A [(s0, .inr (2, [.int (nI ov), .int (nI st), .int (nI tk), .int (nI gv), .int hc, .int ew, .int sl, .int ca, .int (nI lc), .ref s1, .ref s2])), (s1, .inl (ks1, 24, .inl rm)), (s2, .inl (ks2, 60, .inl lw)), (c0, .inl (kc, N, .inl (upd f_7 (nI (a + 7)).toNatClampNeg (ca))))] := hD
  generalize ef_8 : upd f_7 (nI (a + 7)).toNatClampNeg (ca) = f_8 at hP hD
  refine lv_aload_n hx hb dX2_write_72 rfl (lv_at hl 1 rfl) ?_
  refine lv_iload_n hx hb dX2_write_73 rfl (lv_at hl 2 rfl) ?_
  refine lv_bipush (v := nI 8) hx hb dX2_write_74 (by decide) ?_
  refine lv_iadd hx hb dX2_write_76 ?_
  refine tp_as (nI_add a 8) ?_
  refine lv_aload_n hx hb dX2_write_77 rfl (lv_at hl 0 rfl) ?_
  refine va_get (D := (dC, dI)) (ci := 2) (v := .int (nI lc)) (C := RX2) (T := TX2) (N := 11) hx hb hts inX2 hown hK hP 0 rfl rfl 8 (by decide) (hts (.fieldLink RX2 29 "StoreSlopes$State" "lawCount" "I") (List.mem_of_getElem? (i := 9) rfl)) (fun _ h9 => h9) rfl dX2_write_78 ?_
  refine va_iast hx hb hK hP hD hS 3 2 rfl rfl (vp_in_nI (show a + 8 < N by omega) (by omega)) dX2_write_81 (fun H locs hP hD hS => ?_)
  have hP : va_P (dC, dI) vwCl [(s0, .inr (2, [.int (nI ov), .int (nI st), .int (nI tk), .int (nI gv), .int hc, .int ew, .int sl, .int ca, .int (nI lc), .ref s1, .ref s2])), (s1, .inl (ks1, 24, .inl rm)), (s2, .inl (ks2, 60, .inl lw)), (c0, .inl (kc, N, .inl (upd f_8 (nI (a + 8)).toNatClampNeg (nI lc))))] H := hP
  have hD : va_D A [(s0, .inr (2, [.int (nI ov), .int (nI st), .int (nI tk), .int (nI gv), .int hc, .int ew, .int sl, .int ca, .int (nI lc), .ref s1, .ref s2])), (s1, .inl (ks1, 24, .inl rm)), (s2, .inl (ks2, 60, .inl lw)), (c0, .inl (kc, N, .inl (upd f_8 (nI (a + 8)).toNatClampNeg (nI lc))))] := hD
  generalize ef_9 : upd f_8 (nI (a + 8)).toNatClampNeg (nI lc) = f_9 at hP hD
  refine lv_aload_n hx hb dX2_write_82 rfl (lv_at hl 0 rfl) ?_
  refine va_get (D := (dC, dI)) (ci := 2) (v := .ref s1) (C := RX2) (T := TX2) (N := 11) hx hb hts inX2 hown hK hP 0 rfl rfl 9 (by decide) (hts (.fieldLink RX2 18 "StoreSlopes$State" "rooms" "[I") (List.mem_of_getElem? (i := 10) rfl)) (fun _ h9 => h9) rfl dX2_write_83 ?_
  refine lv_iconst (v := nI 0) hx hb dX2_write_86 (by decide) ?_
  refine lv_aload_n hx hb dX2_write_87 rfl (lv_at hl 1 rfl) ?_
  refine lv_iload_n hx hb dX2_write_88 rfl (lv_at hl 2 rfl) ?_
  refine lv_bipush (v := nI 9) hx hb dX2_write_89 (by decide) ?_
  refine lv_iadd hx hb dX2_write_91 ?_
  refine tp_as (nI_add a 9) ?_
  refine lv_bipush (v := nI 24) hx hb dX2_write_92 (by decide) ?_
  refine va_copyi hx hb (hml.trans hl.1.symm) (own := RX2) hown (hts (.methodLink RX2 49 arraycopyName) (List.mem_of_getElem? (i := 11) rfl)) (hts (.native arraycopyName) (List.mem_of_getElem? (i := 12) rfl)) (hts (.static arraycopyName) (List.mem_of_getElem? (i := 13) rfl)) (hts (.initialized "java/lang/System") (List.mem_of_getElem? (i := 14) rfl)) hK hP hD hS 1 3 0 2 rfl rfl rfl rfl rfl (nI_pos (by omega)) (nI_pos (by omega)) (nI_pos (by omega)) (by rw [nI_clamp (by omega), nI_clamp (by omega)]; omega) (by rw [nI_clamp (by omega), nI_clamp (by omega)]; omega) (fun _ _ => rfl) (Nat.le_of_ble_eq_true rfl) (Nat.le_of_ble_eq_true rfl) dX2_write_94 (fun H locs hP hD hS => ?_)
  have hP : va_P (dC, dI) vwCl [(s0, .inr (2, [.int (nI ov), .int (nI st), .int (nI tk), .int (nI gv), .int hc, .int ew, .int sl, .int ca, .int (nI lc), .ref s1, .ref s2])), (s1, .inl (ks1, 24, .inl rm)), (s2, .inl (ks2, 60, .inl lw)), (c0, .inl (kc, N, .inl (va_cpy rm f_9 (nI 0).toNatClampNeg (nI (a + 9)).toNatClampNeg (nI 24).toNatClampNeg)))] H := hP
  have hD : va_D A [(s0, .inr (2, [.int (nI ov), .int (nI st), .int (nI tk), .int (nI gv), .int hc, .int ew, .int sl, .int ca, .int (nI lc), .ref s1, .ref s2])), (s1, .inl (ks1, 24, .inl rm)), (s2, .inl (ks2, 60, .inl lw)), (c0, .inl (kc, N, .inl (va_cpy rm f_9 (nI 0).toNatClampNeg (nI (a + 9)).toNatClampNeg (nI 24).toNatClampNeg)))] := hD
  rw [nI_clamp (show 0 < 2 ^ 31 by omega), nI_clamp (show a + 9 < 2 ^ 31 by omega), nI_clamp (show 24 < 2 ^ 31 by omega)] at hP hD
  generalize ef_10 : va_cpy rm f_9 0 (a + 9) 24 = f_10 at hP hD
  refine lv_aload_n hx hb dX2_write_97 rfl (lv_at hl 0 rfl) ?_
  refine va_get (D := (dC, dI)) (ci := 2) (v := .ref s2) (C := RX2) (T := TX2) (N := 11) hx hb hts inX2 hown hK hP 0 rfl rfl 10 (by decide) (hts (.fieldLink RX2 22 "StoreSlopes$State" "laws" "[I") (List.mem_of_getElem? (i := 15) rfl)) (fun _ h9 => h9) rfl dX2_write_98 ?_
  refine lv_iconst (v := nI 0) hx hb dX2_write_101 (by decide) ?_
  refine lv_aload_n hx hb dX2_write_102 rfl (lv_at hl 1 rfl) ?_
  refine lv_iload_n hx hb dX2_write_103 rfl (lv_at hl 2 rfl) ?_
  refine lv_bipush (v := nI 9) hx hb dX2_write_104 (by decide) ?_
  refine lv_iadd hx hb dX2_write_106 ?_
  refine tp_as (nI_add a 9) ?_
  refine lv_bipush (v := nI 24) hx hb dX2_write_107 (by decide) ?_
  refine lv_iadd hx hb dX2_write_109 ?_
  refine tp_as (nI_add (a + 9) 24) ?_
  refine lv_bipush (v := nI 60) hx hb dX2_write_110 (by decide) ?_
  refine va_copyi hx hb (hml.trans hl.1.symm) (own := RX2) hown (hts (.methodLink RX2 49 arraycopyName) (List.mem_of_getElem? (i := 11) rfl)) (hts (.native arraycopyName) (List.mem_of_getElem? (i := 12) rfl)) (hts (.static arraycopyName) (List.mem_of_getElem? (i := 13) rfl)) (hts (.initialized "java/lang/System") (List.mem_of_getElem? (i := 14) rfl)) hK hP hD hS 2 3 1 2 rfl rfl rfl rfl rfl (nI_pos (by omega)) (nI_pos (by omega)) (nI_pos (by omega)) (by rw [nI_clamp (by omega), nI_clamp (by omega)]; omega) (by rw [nI_clamp (by omega), nI_clamp (by omega)]; omega) (fun _ _ => rfl) (Nat.le_of_ble_eq_true rfl) (Nat.le_of_ble_eq_true rfl) dX2_write_112 (fun H locs hP hD hS => ?_)
  have hP : va_P (dC, dI) vwCl [(s0, .inr (2, [.int (nI ov), .int (nI st), .int (nI tk), .int (nI gv), .int hc, .int ew, .int sl, .int ca, .int (nI lc), .ref s1, .ref s2])), (s1, .inl (ks1, 24, .inl rm)), (s2, .inl (ks2, 60, .inl lw)), (c0, .inl (kc, N, .inl (va_cpy lw f_10 (nI 0).toNatClampNeg (nI (a + 9 + 24)).toNatClampNeg (nI 60).toNatClampNeg)))] H := hP
  have hD : va_D A [(s0, .inr (2, [.int (nI ov), .int (nI st), .int (nI tk), .int (nI gv), .int hc, .int ew, .int sl, .int ca, .int (nI lc), .ref s1, .ref s2])), (s1, .inl (ks1, 24, .inl rm)), (s2, .inl (ks2, 60, .inl lw)), (c0, .inl (kc, N, .inl (va_cpy lw f_10 (nI 0).toNatClampNeg (nI (a + 9 + 24)).toNatClampNeg (nI 60).toNatClampNeg)))] := hD
  rw [nI_clamp (show 0 < 2 ^ 31 by omega), nI_clamp (show a + 9 + 24 < 2 ^ 31 by omega), nI_clamp (show 60 < 2 ^ 31 by omega)] at hP hD
  generalize ef_11 : va_cpy lw f_10 0 (a + 9 + 24) 60 = f_11 at hP hD
  subst hQe
  obtain ⟨hk1, hk2⟩ := okSt_w (by omega) (by assumption) (by assumption) (by assumption) (by assumption) (by assumption) (by assumption) ef_1 ef_2 ef_3 ef_4 ef_5 ef_6 ef_7 ef_8 ef_9 ef_10 ef_11
  have hP9 := hP.sub (ws' := [(s0, .inr (2, [.int (nI ov), .int (nI st), .int (nI tk), .int (nI gv), .int hc, .int ew, .int sl, .int ca, .int (nI lc), .ref s1, .ref s2])), (s1, .inl (ks1, 24, .inl rm)), (s2, .inl (ks2, 60, .inl lw)), (c0, .inl (kc, N, .inl f_11))]) [0, 1, 2, 3] rfl
  have hD9 := hD.sub (ws' := [(s0, .inr (2, [.int (nI ov), .int (nI st), .int (nI tk), .int (nI gv), .int hc, .int ew, .int sl, .int ca, .int (nI lc), .ref s1, .ref s2])), (s1, .inl (ks1, 24, .inl rm)), (s2, .inl (ks2, 60, .inl lw)), (c0, .inl (kc, N, .inl f_11))]) [0, 1, 2, 3] (by decide) rfl
  have hK9 := hK.sub (tys' := [(ks1, .int), (ks2, .int), (kc, .int)]) [0, 1, 2] rfl
  subst hAe
  exact W.vret hx hb hr (fun t ht hW => ⟨⟨(), rfl, trivial, f_11, hk1, hk2, by rw [ht]; exact hP9, va_K.moved hW.alike hK9, hD9⟩, hS.F ht⟩) hS.2.2 dX2_write_115
set_option maxHeartbeats 4000000 in
set_option maxRecDepth 100000 in
theorem c_X2_read (l : Launch) (dC : Nat → ClassId) (dI : Nat → Nat → Nat) (s0 s1 s2 c0 : Nat) (ks1 ks2 kc : ClassId) (sz : Nat) (ov : Nat) (st : Nat) (tk : Nat) (gv : Nat) (hc : Int32) (ew : Int32) (sl : Int32) (ca : Int32) (lc : Nat) (rm : Nat → Int32) (lw : Nat → Int32) (N : Nat) (cg : Nat → Int32) (a : Nat) (i0 : ov ≤ 24) (i1 : st ≤ 60) (i2 : tk ≤ 9) (i3 : gv ≤ 9) (i4 : lc ≤ 12) (i5 : bdA 60 24 rm) (g0 : a + 93 ≤ N) (g1 : N < 2 ^ 31) (g2 : okSt cg a) : Met l yX2_read wsX2_read ({ frames := 1, cells := 0, slots := 0, locals := 26 }) (va_Pc [.ref s0, .ref c0, .int (nI a)] (fun U => U.heap.size = sz ∧ va_P (dC, dI) vwCl [(s0, .inr (2, [.int (nI ov), .int (nI st), .int (nI tk), .int (nI gv), .int hc, .int ew, .int sl, .int ca, .int (nI lc), .ref s1, .ref s2])), (s1, .inl (ks1, 24, .inl rm)), (s2, .inl (ks2, 60, .inl lw)), (c0, .inl (kc, N, .inl cg))] U.heap ∧ va_K (dC, dI) vwCl [(ks1, .int), (ks2, .int), (kc, .int)] U ∧ va_D (fun _ => True) [(s0, .inr (2, [.int (nI ov), .int (nI st), .int (nI tk), .int (nI gv), .int hc, .int ew, .int sl, .int ca, .int (nI lc), .ref s1, .ref s2])), (s1, .inl (ks1, 24, .inl rm)), (s2, .inl (ks2, 60, .inl lw)), (c0, .inl (kc, N, .inl cg))])) (va_Qv (fun _ : Unit => True) (fun _ t => ∃ (ov' : Nat) (st' : Nat) (tk' : Nat) (gv' : Nat) (hc' : Int32) (ew' : Int32) (sl' : Int32) (ca' : Int32) (lc' : Nat) (rm' : Nat → Int32) (lw' : Nat → Int32), ov' ≤ 24 ∧ st' ≤ 60 ∧ tk' ≤ 9 ∧ gv' ≤ 9 ∧ lc' ≤ 12 ∧ bdA 60 24 rm' ∧ va_P (dC, dI) vwCl [(s0, .inr (2, [.int (nI ov'), .int (nI st'), .int (nI tk'), .int (nI gv'), .int hc', .int ew', .int sl', .int ca', .int (nI lc'), .ref s1, .ref s2])), (s1, .inl (ks1, 24, .inl rm')), (s2, .inl (ks2, 60, .inl lw')), (c0, .inl (kc, N, .inl cg))] t.heap ∧ va_K (dC, dI) vwCl [(ks1, .int), (ks2, .int), (kc, .int)] t ∧ va_D (va_A [(s0, .inr (2, [.int (nI ov), .int (nI st), .int (nI tk), .int (nI gv), .int hc, .int ew, .int sl, .int ca, .int (nI lc), .ref s1, .ref s2])), (s1, .inl (ks1, 24, .inl rm)), (s2, .inl (ks2, 60, .inl lw)), (c0, .inl (kc, N, .inl cg))] sz) [(s0, .inr (2, [.int (nI ov'), .int (nI st'), .int (nI tk'), .int (nI gv'), .int hc', .int ew', .int sl', .int ca', .int (nI lc'), .ref s1, .ref s2])), (s1, .inl (ks1, 24, .inl rm')), (s2, .inl (ks2, 60, .inl lw')), (c0, .inl (kc, N, .inl cg))]) (va_A [(s0, .inr (2, [.int (nI ov), .int (nI st), .int (nI tk), .int (nI gv), .int hc, .int ew, .int sl, .int ca, .int (nI lc), .ref s1, .ref s2])), (s1, .inl (ks1, 24, .inl rm)), (s2, .inl (ks2, 60, .inl lw)), (c0, .inl (kc, N, .inl cg))] sz)) 0 0 (va_A [(s0, .inr (2, [.int (nI ov), .int (nI st), .int (nI tk), .int (nI gv), .int hc, .int ew, .int sl, .int ca, .int (nI lc), .ref s1, .ref s2])), (s1, .inl (ks1, 24, .inl rm)), (s2, .inl (ks2, 60, .inl lw)), (c0, .inl (kc, N, .inl cg))] sz) := by
  refine Met.ofW (cc := cX2_read) (maxL := 3) (ret := none) (by decide) rfl ?_
  intro p e s m args below meth c s₁ B hml hv
  obtain ⟨rfl, hsz, hP, hK, hD0⟩ := hv
  have hx := B.exec
  have hb := B.bytes
  have hr := B.returns
  have hts := atoms_spec (ws := wsX2_read) B.pre
  have hown : s.vm.findClass RX2 = some m.cls := findClass_of_methodNamed B.named
  have hlocks := B.notSynchronized
  have inX2 : ∀ w ∈ wsX20, w ∈ wsX2_read := fun _ h => List.mem_cons_of_mem _ (List.mem_append_right _ h)
  subst hsz
  have hD := hD0.self (sz := s.heap.size)
  generalize hAe : va_A [(s0, .inr (2, [.int (nI ov), .int (nI st), .int (nI tk), .int (nI gv), .int hc, .int ew, .int sl, .int ca, .int (nI lc), .ref s1, .ref s2])), (s1, .inl (ks1, 24, .inl rm)), (s2, .inl (ks2, 60, .inl lw)), (c0, .inl (kc, N, .inl cg))] s.heap.size = A at hD ⊢
  have hA : ∀ q : Nat, s.heap.size ≤ q → A q := fun q h => by rw [← hAe]; exact Or.inr h
  have hS : va_S A s.heap s.heap [] := va_S.rf
  have hl := lv_entry ([.ref s0, .ref c0, .int (nI a)]) (n := 3) (Nat.le_of_ble_eq_true rfl)
  rw [lg_entry_eq]
  generalize (lg_sl ([.ref s0, .ref c0, .int (nI a)]) ++ List.replicate (3 - (lg_sl ([.ref s0, .ref c0, .int (nI a)])).length) Slot.unset).toArray = ls at hl ⊢
  generalize hQe : MQ below _ _ s 0 0 _ = Q
  generalize ([.ref s0, .ref c0, .int (nI a)] : List Value).toArray = args at hts hQe ⊢
  have hl : lv_has ls 3 [(0, .ref s0), (1, .ref c0), (2, .int (nI a))] := hl
  refine lv_aload_n hx hb dX2_read_0 rfl (lv_at hl 0 rfl) ?_
  refine lv_aload_n hx hb dX2_read_1 rfl (lv_at hl 1 rfl) ?_
  refine lv_iload_n hx hb dX2_read_2 rfl (lv_at hl 2 rfl) ?_
  refine va_iald hx hb hK hP 3 2 rfl rfl (vp_in_nI (show a < N by omega) (by omega)) dX2_read_3 ?_
  obtain ⟨j_1, hj_1, ej_1⟩ := okSt_cl (n := 24) (b := a) g2.1 (by omega)
  refine tp_as ej_1 ?_
  refine va_put (D := (dC, dI)) (ci := 2) (v := .int (nI j_1)) (ty := .int) (C := RX2) (T := TX2) (N := 11) hx hb hts inX2 tyX2 tyX2_ok nmX2 hown hK hP hD hS 0 rfl rfl 0 (by decide) (hts (.fieldLink RX2 55 "StoreSlopes$State" "over" "I") (List.mem_of_getElem? (i := 1) rfl)) (fun _ h9 => h9) rfl (by decide +kernel) rfl rfl (Nat.le_of_ble_eq_true rfl) dX2_read_4 (fun H locs hP hD hS => ?_)
  have hP : va_P (dC, dI) vwCl [(s0, .inr (2, [.int (nI j_1), .int (nI st), .int (nI tk), .int (nI gv), .int hc, .int ew, .int sl, .int ca, .int (nI lc), .ref s1, .ref s2])), (s1, .inl (ks1, 24, .inl rm)), (s2, .inl (ks2, 60, .inl lw)), (c0, .inl (kc, N, .inl cg))] H := hP
  have hD : va_D A [(s0, .inr (2, [.int (nI j_1), .int (nI st), .int (nI tk), .int (nI gv), .int hc, .int ew, .int sl, .int ca, .int (nI lc), .ref s1, .ref s2])), (s1, .inl (ks1, 24, .inl rm)), (s2, .inl (ks2, 60, .inl lw)), (c0, .inl (kc, N, .inl cg))] := hD
  refine lv_aload_n hx hb dX2_read_7 rfl (lv_at hl 0 rfl) ?_
  refine lv_aload_n hx hb dX2_read_8 rfl (lv_at hl 1 rfl) ?_
  refine lv_iload_n hx hb dX2_read_9 rfl (lv_at hl 2 rfl) ?_
  refine lv_iconst (v := nI 1) hx hb dX2_read_10 (by decide) ?_
  refine lv_iadd hx hb dX2_read_11 ?_
  refine tp_as (nI_add a 1) ?_
  refine va_iald hx hb hK hP 3 2 rfl rfl (vp_in_nI (show a + 1 < N by omega) (by omega)) dX2_read_12 ?_
  obtain ⟨j_2, hj_2, ej_2⟩ := okSt_cl (n := 60) (b := a + 1) g2.2.1 (by omega)
  refine tp_as ej_2 ?_
  refine va_put (D := (dC, dI)) (ci := 2) (v := .int (nI j_2)) (ty := .int) (C := RX2) (T := TX2) (N := 11) hx hb hts inX2 tyX2 tyX2_ok nmX2 hown hK hP hD hS 0 rfl rfl 1 (by decide) (hts (.fieldLink RX2 58 "StoreSlopes$State" "start" "I") (List.mem_of_getElem? (i := 2) rfl)) (fun _ h9 => h9) rfl (by decide +kernel) rfl rfl (Nat.le_of_ble_eq_true rfl) dX2_read_13 (fun H locs hP hD hS => ?_)
  have hP : va_P (dC, dI) vwCl [(s0, .inr (2, [.int (nI j_1), .int (nI j_2), .int (nI tk), .int (nI gv), .int hc, .int ew, .int sl, .int ca, .int (nI lc), .ref s1, .ref s2])), (s1, .inl (ks1, 24, .inl rm)), (s2, .inl (ks2, 60, .inl lw)), (c0, .inl (kc, N, .inl cg))] H := hP
  have hD : va_D A [(s0, .inr (2, [.int (nI j_1), .int (nI j_2), .int (nI tk), .int (nI gv), .int hc, .int ew, .int sl, .int ca, .int (nI lc), .ref s1, .ref s2])), (s1, .inl (ks1, 24, .inl rm)), (s2, .inl (ks2, 60, .inl lw)), (c0, .inl (kc, N, .inl cg))] := hD
  refine lv_aload_n hx hb dX2_read_16 rfl (lv_at hl 0 rfl) ?_
  refine lv_aload_n hx hb dX2_read_17 rfl (lv_at hl 1 rfl) ?_
  refine lv_iload_n hx hb dX2_read_18 rfl (lv_at hl 2 rfl) ?_
  refine lv_iconst (v := nI 2) hx hb dX2_read_19 (by decide) ?_
  refine lv_iadd hx hb dX2_read_20 ?_
  refine tp_as (nI_add a 2) ?_
  refine va_iald hx hb hK hP 3 2 rfl rfl (vp_in_nI (show a + 2 < N by omega) (by omega)) dX2_read_21 ?_
  obtain ⟨j_3, hj_3, ej_3⟩ := okSt_cl (n := 9) (b := a + 2) g2.2.2.1 (by omega)
  refine tp_as ej_3 ?_
  refine va_put (D := (dC, dI)) (ci := 2) (v := .int (nI j_3)) (ty := .int) (C := RX2) (T := TX2) (N := 11) hx hb hts inX2 tyX2 tyX2_ok nmX2 hown hK hP hD hS 0 rfl rfl 2 (by decide) (hts (.fieldLink RX2 11 "StoreSlopes$State" "takes" "I") (List.mem_of_getElem? (i := 3) rfl)) (fun _ h9 => h9) rfl (by decide +kernel) rfl rfl (Nat.le_of_ble_eq_true rfl) dX2_read_22 (fun H locs hP hD hS => ?_)
  have hP : va_P (dC, dI) vwCl [(s0, .inr (2, [.int (nI j_1), .int (nI j_2), .int (nI j_3), .int (nI gv), .int hc, .int ew, .int sl, .int ca, .int (nI lc), .ref s1, .ref s2])), (s1, .inl (ks1, 24, .inl rm)), (s2, .inl (ks2, 60, .inl lw)), (c0, .inl (kc, N, .inl cg))] H := hP
  have hD : va_D A [(s0, .inr (2, [.int (nI j_1), .int (nI j_2), .int (nI j_3), .int (nI gv), .int hc, .int ew, .int sl, .int ca, .int (nI lc), .ref s1, .ref s2])), (s1, .inl (ks1, 24, .inl rm)), (s2, .inl (ks2, 60, .inl lw)), (c0, .inl (kc, N, .inl cg))] := hD
  refine lv_aload_n hx hb dX2_read_25 rfl (lv_at hl 0 rfl) ?_
  refine lv_aload_n hx hb dX2_read_26 rfl (lv_at hl 1 rfl) ?_
  refine lv_iload_n hx hb dX2_read_27 rfl (lv_at hl 2 rfl) ?_
  refine lv_iconst (v := nI 3) hx hb dX2_read_28 (by decide) ?_
  refine lv_iadd hx hb dX2_read_29 ?_
  refine tp_as (nI_add a 3) ?_
  refine va_iald hx hb hK hP 3 2 rfl rfl (vp_in_nI (show a + 3 < N by omega) (by omega)) dX2_read_30 ?_
  obtain ⟨j_4, hj_4, ej_4⟩ := okSt_cl (n := 9) (b := a + 3) g2.2.2.2.1 (by omega)
  refine tp_as ej_4 ?_
  refine va_put (D := (dC, dI)) (ci := 2) (v := .int (nI j_4)) (ty := .int) (C := RX2) (T := TX2) (N := 11) hx hb hts inX2 tyX2 tyX2_ok nmX2 hown hK hP hD hS 0 rfl rfl 3 (by decide) (hts (.fieldLink RX2 15 "StoreSlopes$State" "gives" "I") (List.mem_of_getElem? (i := 4) rfl)) (fun _ h9 => h9) rfl (by decide +kernel) rfl rfl (Nat.le_of_ble_eq_true rfl) dX2_read_31 (fun H locs hP hD hS => ?_)
  have hP : va_P (dC, dI) vwCl [(s0, .inr (2, [.int (nI j_1), .int (nI j_2), .int (nI j_3), .int (nI j_4), .int hc, .int ew, .int sl, .int ca, .int (nI lc), .ref s1, .ref s2])), (s1, .inl (ks1, 24, .inl rm)), (s2, .inl (ks2, 60, .inl lw)), (c0, .inl (kc, N, .inl cg))] H := hP
  have hD : va_D A [(s0, .inr (2, [.int (nI j_1), .int (nI j_2), .int (nI j_3), .int (nI j_4), .int hc, .int ew, .int sl, .int ca, .int (nI lc), .ref s1, .ref s2])), (s1, .inl (ks1, 24, .inl rm)), (s2, .inl (ks2, 60, .inl lw)), (c0, .inl (kc, N, .inl cg))] := hD
  refine lv_aload_n hx hb dX2_read_34 rfl (lv_at hl 0 rfl) ?_
  refine lv_aload_n hx hb dX2_read_35 rfl (lv_at hl 1 rfl) ?_
  refine lv_iload_n hx hb dX2_read_36 rfl (lv_at hl 2 rfl) ?_
  refine lv_iconst (v := nI 4) hx hb dX2_read_37 (by decide) ?_
  refine lv_iadd hx hb dX2_read_38 ?_
  refine tp_as (nI_add a 4) ?_
  refine va_iald hx hb hK hP 3 2 rfl rfl (vp_in_nI (show a + 4 < N by omega) (by omega)) dX2_read_39 ?_
  refine tp_any (fun y_5 => ?_)
  refine va_put (D := (dC, dI)) (ci := 2) (v := .int y_5) (ty := .int) (C := RX2) (T := TX2) (N := 11) hx hb hts inX2 tyX2 tyX2_ok nmX2 hown hK hP hD hS 0 rfl rfl 4 (by decide) (hts (.fieldLink RX2 61 "StoreSlopes$State" "holdCost" "I") (List.mem_of_getElem? (i := 5) rfl)) (fun _ h9 => h9) rfl (by decide +kernel) rfl rfl (Nat.le_of_ble_eq_true rfl) dX2_read_40 (fun H locs hP hD hS => ?_)
  have hP : va_P (dC, dI) vwCl [(s0, .inr (2, [.int (nI j_1), .int (nI j_2), .int (nI j_3), .int (nI j_4), .int y_5, .int ew, .int sl, .int ca, .int (nI lc), .ref s1, .ref s2])), (s1, .inl (ks1, 24, .inl rm)), (s2, .inl (ks2, 60, .inl lw)), (c0, .inl (kc, N, .inl cg))] H := hP
  have hD : va_D A [(s0, .inr (2, [.int (nI j_1), .int (nI j_2), .int (nI j_3), .int (nI j_4), .int y_5, .int ew, .int sl, .int ca, .int (nI lc), .ref s1, .ref s2])), (s1, .inl (ks1, 24, .inl rm)), (s2, .inl (ks2, 60, .inl lw)), (c0, .inl (kc, N, .inl cg))] := hD
  refine lv_aload_n hx hb dX2_read_43 rfl (lv_at hl 0 rfl) ?_
  refine lv_aload_n hx hb dX2_read_44 rfl (lv_at hl 1 rfl) ?_
  refine lv_iload_n hx hb dX2_read_45 rfl (lv_at hl 2 rfl) ?_
  refine lv_iconst (v := nI 5) hx hb dX2_read_46 (by decide) ?_
  refine lv_iadd hx hb dX2_read_47 ?_
  refine tp_as (nI_add a 5) ?_
  refine va_iald hx hb hK hP 3 2 rfl rfl (vp_in_nI (show a + 5 < N by omega) (by omega)) dX2_read_48 ?_
  refine tp_any (fun y_6 => ?_)
  refine va_put (D := (dC, dI)) (ci := 2) (v := .int y_6) (ty := .int) (C := RX2) (T := TX2) (N := 11) hx hb hts inX2 tyX2 tyX2_ok nmX2 hown hK hP hD hS 0 rfl rfl 5 (by decide) (hts (.fieldLink RX2 64 "StoreSlopes$State" "endWorth" "I") (List.mem_of_getElem? (i := 6) rfl)) (fun _ h9 => h9) rfl (by decide +kernel) rfl rfl (Nat.le_of_ble_eq_true rfl) dX2_read_49 (fun H locs hP hD hS => ?_)
  have hP : va_P (dC, dI) vwCl [(s0, .inr (2, [.int (nI j_1), .int (nI j_2), .int (nI j_3), .int (nI j_4), .int y_5, .int y_6, .int sl, .int ca, .int (nI lc), .ref s1, .ref s2])), (s1, .inl (ks1, 24, .inl rm)), (s2, .inl (ks2, 60, .inl lw)), (c0, .inl (kc, N, .inl cg))] H := hP
  have hD : va_D A [(s0, .inr (2, [.int (nI j_1), .int (nI j_2), .int (nI j_3), .int (nI j_4), .int y_5, .int y_6, .int sl, .int ca, .int (nI lc), .ref s1, .ref s2])), (s1, .inl (ks1, 24, .inl rm)), (s2, .inl (ks2, 60, .inl lw)), (c0, .inl (kc, N, .inl cg))] := hD
  refine lv_aload_n hx hb dX2_read_52 rfl (lv_at hl 0 rfl) ?_
  refine lv_aload_n hx hb dX2_read_53 rfl (lv_at hl 1 rfl) ?_
  refine lv_iload_n hx hb dX2_read_54 rfl (lv_at hl 2 rfl) ?_
  refine lv_bipush (v := nI 6) hx hb dX2_read_55 (by decide) ?_
  refine lv_iadd hx hb dX2_read_57 ?_
  refine tp_as (nI_add a 6) ?_
  refine va_iald hx hb hK hP 3 2 rfl rfl (vp_in_nI (show a + 6 < N by omega) (by omega)) dX2_read_58 ?_
  refine tp_any (fun y_7 => ?_)
  refine va_put (D := (dC, dI)) (ci := 2) (v := .int y_7) (ty := .int) (C := RX2) (T := TX2) (N := 11) hx hb hts inX2 tyX2 tyX2_ok nmX2 hown hK hP hD hS 0 rfl rfl 6 (by decide) (hts (.fieldLink RX2 67 "StoreSlopes$State" "sellLoss" "I") (List.mem_of_getElem? (i := 7) rfl)) (fun _ h9 => h9) rfl (by decide +kernel) rfl rfl (Nat.le_of_ble_eq_true rfl) dX2_read_59 (fun H locs hP hD hS => ?_)
  have hP : va_P (dC, dI) vwCl [(s0, .inr (2, [.int (nI j_1), .int (nI j_2), .int (nI j_3), .int (nI j_4), .int y_5, .int y_6, .int y_7, .int ca, .int (nI lc), .ref s1, .ref s2])), (s1, .inl (ks1, 24, .inl rm)), (s2, .inl (ks2, 60, .inl lw)), (c0, .inl (kc, N, .inl cg))] H := hP
  have hD : va_D A [(s0, .inr (2, [.int (nI j_1), .int (nI j_2), .int (nI j_3), .int (nI j_4), .int y_5, .int y_6, .int y_7, .int ca, .int (nI lc), .ref s1, .ref s2])), (s1, .inl (ks1, 24, .inl rm)), (s2, .inl (ks2, 60, .inl lw)), (c0, .inl (kc, N, .inl cg))] := hD
  refine lv_aload_n hx hb dX2_read_62 rfl (lv_at hl 0 rfl) ?_
  refine lv_aload_n hx hb dX2_read_63 rfl (lv_at hl 1 rfl) ?_
  refine lv_iload_n hx hb dX2_read_64 rfl (lv_at hl 2 rfl) ?_
  refine lv_bipush (v := nI 7) hx hb dX2_read_65 (by decide) ?_
  refine lv_iadd hx hb dX2_read_67 ?_
  refine tp_as (nI_add a 7) ?_
  refine va_iald hx hb hK hP 3 2 rfl rfl (vp_in_nI (show a + 7 < N by omega) (by omega)) dX2_read_68 ?_
  refine tp_any (fun y_8 => ?_)
  refine va_put (D := (dC, dI)) (ci := 2) (v := .int y_8) (ty := .int) (C := RX2) (T := TX2) (N := 11) hx hb hts inX2 tyX2 tyX2_ok nmX2 hown hK hP hD hS 0 rfl rfl 7 (by decide) (hts (.fieldLink RX2 70 "StoreSlopes$State" "cash" "I") (List.mem_of_getElem? (i := 8) rfl)) (fun _ h9 => h9) rfl (by decide +kernel) rfl rfl (Nat.le_of_ble_eq_true rfl) dX2_read_69 (fun H locs hP hD hS => ?_)
  have hP : va_P (dC, dI) vwCl [(s0, .inr (2, [.int (nI j_1), .int (nI j_2), .int (nI j_3), .int (nI j_4), .int y_5, .int y_6, .int y_7, .int y_8, .int (nI lc), .ref s1, .ref s2])), (s1, .inl (ks1, 24, .inl rm)), (s2, .inl (ks2, 60, .inl lw)), (c0, .inl (kc, N, .inl cg))] H := hP
  have hD : va_D A [(s0, .inr (2, [.int (nI j_1), .int (nI j_2), .int (nI j_3), .int (nI j_4), .int y_5, .int y_6, .int y_7, .int y_8, .int (nI lc), .ref s1, .ref s2])), (s1, .inl (ks1, 24, .inl rm)), (s2, .inl (ks2, 60, .inl lw)), (c0, .inl (kc, N, .inl cg))] := hD
  refine lv_aload_n hx hb dX2_read_72 rfl (lv_at hl 0 rfl) ?_
  refine lv_aload_n hx hb dX2_read_73 rfl (lv_at hl 1 rfl) ?_
  refine lv_iload_n hx hb dX2_read_74 rfl (lv_at hl 2 rfl) ?_
  refine lv_bipush (v := nI 8) hx hb dX2_read_75 (by decide) ?_
  refine lv_iadd hx hb dX2_read_77 ?_
  refine tp_as (nI_add a 8) ?_
  refine va_iald hx hb hK hP 3 2 rfl rfl (vp_in_nI (show a + 8 < N by omega) (by omega)) dX2_read_78 ?_
  obtain ⟨j_9, hj_9, ej_9⟩ := okSt_cl (n := 12) (b := a + 8) g2.2.2.2.2.1 (by omega)
  refine tp_as ej_9 ?_
  refine va_put (D := (dC, dI)) (ci := 2) (v := .int (nI j_9)) (ty := .int) (C := RX2) (T := TX2) (N := 11) hx hb hts inX2 tyX2 tyX2_ok nmX2 hown hK hP hD hS 0 rfl rfl 8 (by decide) (hts (.fieldLink RX2 29 "StoreSlopes$State" "lawCount" "I") (List.mem_of_getElem? (i := 9) rfl)) (fun _ h9 => h9) rfl (by decide +kernel) rfl rfl (Nat.le_of_ble_eq_true rfl) dX2_read_79 (fun H locs hP hD hS => ?_)
  have hP : va_P (dC, dI) vwCl [(s0, .inr (2, [.int (nI j_1), .int (nI j_2), .int (nI j_3), .int (nI j_4), .int y_5, .int y_6, .int y_7, .int y_8, .int (nI j_9), .ref s1, .ref s2])), (s1, .inl (ks1, 24, .inl rm)), (s2, .inl (ks2, 60, .inl lw)), (c0, .inl (kc, N, .inl cg))] H := hP
  have hD : va_D A [(s0, .inr (2, [.int (nI j_1), .int (nI j_2), .int (nI j_3), .int (nI j_4), .int y_5, .int y_6, .int y_7, .int y_8, .int (nI j_9), .ref s1, .ref s2])), (s1, .inl (ks1, 24, .inl rm)), (s2, .inl (ks2, 60, .inl lw)), (c0, .inl (kc, N, .inl cg))] := hD
  refine lv_aload_n hx hb dX2_read_82 rfl (lv_at hl 1 rfl) ?_
  refine lv_iload_n hx hb dX2_read_83 rfl (lv_at hl 2 rfl) ?_
  refine lv_bipush (v := nI 9) hx hb dX2_read_84 (by decide) ?_
  refine lv_iadd hx hb dX2_read_86 ?_
  refine tp_as (nI_add a 9) ?_
  refine lv_aload_n hx hb dX2_read_87 rfl (lv_at hl 0 rfl) ?_
  refine va_get (D := (dC, dI)) (ci := 2) (v := .ref s1) (C := RX2) (T := TX2) (N := 11) hx hb hts inX2 hown hK hP 0 rfl rfl 9 (by decide) (hts (.fieldLink RX2 18 "StoreSlopes$State" "rooms" "[I") (List.mem_of_getElem? (i := 10) rfl)) (fun _ h9 => h9) rfl dX2_read_88 ?_
  refine lv_iconst (v := nI 0) hx hb dX2_read_91 (by decide) ?_
  refine lv_bipush (v := nI 24) hx hb dX2_read_92 (by decide) ?_
  refine va_copyi hx hb (hml.trans hl.1.symm) (own := RX2) hown (hts (.methodLink RX2 49 arraycopyName) (List.mem_of_getElem? (i := 11) rfl)) (hts (.native arraycopyName) (List.mem_of_getElem? (i := 12) rfl)) (hts (.static arraycopyName) (List.mem_of_getElem? (i := 13) rfl)) (hts (.initialized "java/lang/System") (List.mem_of_getElem? (i := 14) rfl)) hK hP hD hS 3 1 2 0 rfl rfl rfl rfl rfl (nI_pos (by omega)) (nI_pos (by omega)) (nI_pos (by omega)) (by rw [nI_clamp (by omega), nI_clamp (by omega)]; omega) (by rw [nI_clamp (by omega), nI_clamp (by omega)]; omega) (fun _ _ => rfl) (Nat.le_of_ble_eq_true rfl) (Nat.le_of_ble_eq_true rfl) dX2_read_94 (fun H locs hP hD hS => ?_)
  have hP : va_P (dC, dI) vwCl [(s0, .inr (2, [.int (nI j_1), .int (nI j_2), .int (nI j_3), .int (nI j_4), .int y_5, .int y_6, .int y_7, .int y_8, .int (nI j_9), .ref s1, .ref s2])), (s1, .inl (ks1, 24, .inl (va_cpy cg rm (nI (a + 9)).toNatClampNeg (nI 0).toNatClampNeg (nI 24).toNatClampNeg))), (s2, .inl (ks2, 60, .inl lw)), (c0, .inl (kc, N, .inl cg))] H := hP
  have hD : va_D A [(s0, .inr (2, [.int (nI j_1), .int (nI j_2), .int (nI j_3), .int (nI j_4), .int y_5, .int y_6, .int y_7, .int y_8, .int (nI j_9), .ref s1, .ref s2])), (s1, .inl (ks1, 24, .inl (va_cpy cg rm (nI (a + 9)).toNatClampNeg (nI 0).toNatClampNeg (nI 24).toNatClampNeg))), (s2, .inl (ks2, 60, .inl lw)), (c0, .inl (kc, N, .inl cg))] := hD
  rw [nI_clamp (show a + 9 < 2 ^ 31 by omega), nI_clamp (show 0 < 2 ^ 31 by omega), nI_clamp (show 24 < 2 ^ 31 by omega)] at hP hD
  generalize ef_10 : va_cpy cg rm (a + 9) 0 24 = f_10 at hP hD
  have bf_10 := okSt_rm g2 ef_10
  refine lv_aload_n hx hb dX2_read_97 rfl (lv_at hl 1 rfl) ?_
  refine lv_iload_n hx hb dX2_read_98 rfl (lv_at hl 2 rfl) ?_
  refine lv_bipush (v := nI 9) hx hb dX2_read_99 (by decide) ?_
  refine lv_iadd hx hb dX2_read_101 ?_
  refine tp_as (nI_add a 9) ?_
  refine lv_bipush (v := nI 24) hx hb dX2_read_102 (by decide) ?_
  refine lv_iadd hx hb dX2_read_104 ?_
  refine tp_as (nI_add (a + 9) 24) ?_
  refine lv_aload_n hx hb dX2_read_105 rfl (lv_at hl 0 rfl) ?_
  refine va_get (D := (dC, dI)) (ci := 2) (v := .ref s2) (C := RX2) (T := TX2) (N := 11) hx hb hts inX2 hown hK hP 0 rfl rfl 10 (by decide) (hts (.fieldLink RX2 22 "StoreSlopes$State" "laws" "[I") (List.mem_of_getElem? (i := 15) rfl)) (fun _ h9 => h9) rfl dX2_read_106 ?_
  refine lv_iconst (v := nI 0) hx hb dX2_read_109 (by decide) ?_
  refine lv_bipush (v := nI 60) hx hb dX2_read_110 (by decide) ?_
  refine va_copyi hx hb (hml.trans hl.1.symm) (own := RX2) hown (hts (.methodLink RX2 49 arraycopyName) (List.mem_of_getElem? (i := 11) rfl)) (hts (.native arraycopyName) (List.mem_of_getElem? (i := 12) rfl)) (hts (.static arraycopyName) (List.mem_of_getElem? (i := 13) rfl)) (hts (.initialized "java/lang/System") (List.mem_of_getElem? (i := 14) rfl)) hK hP hD hS 3 2 2 1 rfl rfl rfl rfl rfl (nI_pos (by omega)) (nI_pos (by omega)) (nI_pos (by omega)) (by rw [nI_clamp (by omega), nI_clamp (by omega)]; omega) (by rw [nI_clamp (by omega), nI_clamp (by omega)]; omega) (fun _ _ => rfl) (Nat.le_of_ble_eq_true rfl) (Nat.le_of_ble_eq_true rfl) dX2_read_112 (fun H locs hP hD hS => ?_)
  have hP : va_P (dC, dI) vwCl [(s0, .inr (2, [.int (nI j_1), .int (nI j_2), .int (nI j_3), .int (nI j_4), .int y_5, .int y_6, .int y_7, .int y_8, .int (nI j_9), .ref s1, .ref s2])), (s1, .inl (ks1, 24, .inl f_10)), (s2, .inl (ks2, 60, .inl (va_cpy cg lw (nI (a + 9 + 24)).toNatClampNeg (nI 0).toNatClampNeg (nI 60).toNatClampNeg))), (c0, .inl (kc, N, .inl cg))] H := hP
  have hD : va_D A [(s0, .inr (2, [.int (nI j_1), .int (nI j_2), .int (nI j_3), .int (nI j_4), .int y_5, .int y_6, .int y_7, .int y_8, .int (nI j_9), .ref s1, .ref s2])), (s1, .inl (ks1, 24, .inl f_10)), (s2, .inl (ks2, 60, .inl (va_cpy cg lw (nI (a + 9 + 24)).toNatClampNeg (nI 0).toNatClampNeg (nI 60).toNatClampNeg))), (c0, .inl (kc, N, .inl cg))] := hD
  rw [nI_clamp (show a + 9 + 24 < 2 ^ 31 by omega), nI_clamp (show 0 < 2 ^ 31 by omega), nI_clamp (show 60 < 2 ^ 31 by omega)] at hP hD
  generalize ef_11 : va_cpy cg lw (a + 9 + 24) 0 60 = f_11 at hP hD
  subst hQe
  have hP9 := hP.sub (ws' := [(s0, .inr (2, [.int (nI j_1), .int (nI j_2), .int (nI j_3), .int (nI j_4), .int y_5, .int y_6, .int y_7, .int y_8, .int (nI j_9), .ref s1, .ref s2])), (s1, .inl (ks1, 24, .inl f_10)), (s2, .inl (ks2, 60, .inl f_11)), (c0, .inl (kc, N, .inl cg))]) [0, 1, 2, 3] rfl
  have hD9 := hD.sub (ws' := [(s0, .inr (2, [.int (nI j_1), .int (nI j_2), .int (nI j_3), .int (nI j_4), .int y_5, .int y_6, .int y_7, .int y_8, .int (nI j_9), .ref s1, .ref s2])), (s1, .inl (ks1, 24, .inl f_10)), (s2, .inl (ks2, 60, .inl f_11)), (c0, .inl (kc, N, .inl cg))]) [0, 1, 2, 3] (by decide) rfl
  have hK9 := hK.sub (tys' := [(ks1, .int), (ks2, .int), (kc, .int)]) [0, 1, 2] rfl
  subst hAe
  exact W.vret hx hb hr (fun t ht hW => ⟨⟨(), rfl, trivial, j_1, j_2, j_3, j_4, y_5, y_6, y_7, y_8, j_9, f_10, f_11, (by first | assumption | omega), (by first | assumption | omega), (by first | assumption | omega), (by first | assumption | omega), (by first | assumption | omega), (by first | assumption | omega), by rw [ht]; exact hP9, va_K.moved hW.alike hK9, hD9⟩, hS.F ht⟩) hS.2.2 dX2_read_115
set_option maxHeartbeats 4000000 in
set_option maxRecDepth 100000 in
theorem c_X0_put (l : Launch) (dC : Nat → ClassId) (dI : Nat → Nat → Nat) (d0 c0 s0 s1 s2 : Nat) (kc ks1 ks2 : ClassId) (sz : Nat) (np : Nat) (N : Nat) (cg : Nat → Int32) (ov : Nat) (st : Nat) (tk : Nat) (gv : Nat) (hc : Int32) (ew : Int32) (sl : Int32) (ca : Int32) (lc : Nat) (rm : Nat → Int32) (lw : Nat → Int32) (pl : Int32) (i0 : N = np * 93) (i1 : np ≤ 40) (i2 : okSh np cg) (i3 : ov ≤ 24) (i4 : st ≤ 60) (i5 : tk ≤ 9) (i6 : gv ≤ 9) (i7 : lc ≤ 12) (i8 : bdA 60 24 rm) : Met l yX0_put wsX0_put ({ frames := 2, cells := 0, slots := 0, locals := 48 }) (va_Pc [.ref d0, .int pl, .ref s0] (fun U => U.heap.size = sz ∧ va_P (dC, dI) vwCl [(d0, .inr (0, [.int (nI np), .ref c0])), (c0, .inl (kc, N, .inl cg)), (s0, .inr (2, [.int (nI ov), .int (nI st), .int (nI tk), .int (nI gv), .int hc, .int ew, .int sl, .int ca, .int (nI lc), .ref s1, .ref s2])), (s1, .inl (ks1, 24, .inl rm)), (s2, .inl (ks2, 60, .inl lw))] U.heap ∧ va_K (dC, dI) vwCl [(kc, .int), (ks1, .int), (ks2, .int)] U ∧ va_D (fun _ => True) [(d0, .inr (0, [.int (nI np), .ref c0])), (c0, .inl (kc, N, .inl cg)), (s0, .inr (2, [.int (nI ov), .int (nI st), .int (nI tk), .int (nI gv), .int hc, .int ew, .int sl, .int ca, .int (nI lc), .ref s1, .ref s2])), (s1, .inl (ks1, 24, .inl rm)), (s2, .inl (ks2, 60, .inl lw))])) (va_Qv (fun _ : Unit => True) (fun _ t => ∃ (cg' : Nat → Int32), okSh np cg' ∧ va_P (dC, dI) vwCl [(d0, .inr (0, [.int (nI np), .ref c0])), (c0, .inl (kc, N, .inl cg')), (s0, .inr (2, [.int (nI ov), .int (nI st), .int (nI tk), .int (nI gv), .int hc, .int ew, .int sl, .int ca, .int (nI lc), .ref s1, .ref s2])), (s1, .inl (ks1, 24, .inl rm)), (s2, .inl (ks2, 60, .inl lw))] t.heap ∧ va_K (dC, dI) vwCl [(kc, .int), (ks1, .int), (ks2, .int)] t ∧ va_D (va_A [(d0, .inr (0, [.int (nI np), .ref c0])), (c0, .inl (kc, N, .inl cg)), (s0, .inr (2, [.int (nI ov), .int (nI st), .int (nI tk), .int (nI gv), .int hc, .int ew, .int sl, .int ca, .int (nI lc), .ref s1, .ref s2])), (s1, .inl (ks1, 24, .inl rm)), (s2, .inl (ks2, 60, .inl lw))] sz) [(d0, .inr (0, [.int (nI np), .ref c0])), (c0, .inl (kc, N, .inl cg')), (s0, .inr (2, [.int (nI ov), .int (nI st), .int (nI tk), .int (nI gv), .int hc, .int ew, .int sl, .int ca, .int (nI lc), .ref s1, .ref s2])), (s1, .inl (ks1, 24, .inl rm)), (s2, .inl (ks2, 60, .inl lw))]) (va_A [(d0, .inr (0, [.int (nI np), .ref c0])), (c0, .inl (kc, N, .inl cg)), (s0, .inr (2, [.int (nI ov), .int (nI st), .int (nI tk), .int (nI gv), .int hc, .int ew, .int sl, .int ca, .int (nI lc), .ref s1, .ref s2])), (s1, .inl (ks1, 24, .inl rm)), (s2, .inl (ks2, 60, .inl lw))] sz)) 0 0 (va_A [(d0, .inr (0, [.int (nI np), .ref c0])), (c0, .inl (kc, N, .inl cg)), (s0, .inr (2, [.int (nI ov), .int (nI st), .int (nI tk), .int (nI gv), .int hc, .int ew, .int sl, .int ca, .int (nI lc), .ref s1, .ref s2])), (s1, .inl (ks1, 24, .inl rm)), (s2, .inl (ks2, 60, .inl lw))] sz) := by
  refine Met.ofW (cc := cX0_put) (maxL := 3) (ret := none) (by decide) rfl ?_
  intro p e s m args below meth c s₁ B hml hv
  obtain ⟨rfl, hsz, hP, hK, hD0⟩ := hv
  have hx := B.exec
  have hb := B.bytes
  have hr := B.returns
  have hts := atoms_spec (ws := wsX0_put) B.pre
  have hown : s.vm.findClass RX0 = some m.cls := findClass_of_methodNamed B.named
  have hlocks := B.notSynchronized
  have inX0 : ∀ w ∈ wsX00, w ∈ wsX0_put := fun _ h => List.mem_cons_of_mem _ (List.mem_append_left _ (List.mem_append_right _ h))
  have inX2 : ∀ w ∈ wsX20, w ∈ wsX0_put := fun _ h => List.mem_cons_of_mem _ (List.mem_append_right _ h)
  subst hsz
  have hD := hD0.self (sz := s.heap.size)
  generalize hAe : va_A [(d0, .inr (0, [.int (nI np), .ref c0])), (c0, .inl (kc, N, .inl cg)), (s0, .inr (2, [.int (nI ov), .int (nI st), .int (nI tk), .int (nI gv), .int hc, .int ew, .int sl, .int ca, .int (nI lc), .ref s1, .ref s2])), (s1, .inl (ks1, 24, .inl rm)), (s2, .inl (ks2, 60, .inl lw))] s.heap.size = A at hD ⊢
  have hA : ∀ q : Nat, s.heap.size ≤ q → A q := fun q h => by rw [← hAe]; exact Or.inr h
  have hS : va_S A s.heap s.heap [] := va_S.rf
  have hl := lv_entry ([.ref d0, .int pl, .ref s0]) (n := 3) (Nat.le_of_ble_eq_true rfl)
  rw [lg_entry_eq]
  generalize (lg_sl ([.ref d0, .int pl, .ref s0]) ++ List.replicate (3 - (lg_sl ([.ref d0, .int pl, .ref s0])).length) Slot.unset).toArray = ls at hl ⊢
  generalize hQe : MQ below _ _ s 0 0 _ = Q
  generalize ([.ref d0, .int pl, .ref s0] : List Value).toArray = args at hts hQe ⊢
  have hl : lv_has ls 3 [(0, .ref d0), (1, .int pl), (2, .ref s0)] := hl
  refine lv_iload_n hx hb dX0_put_0 rfl (lv_at hl 1 rfl) ?_
  refine lv_if_lt (tgt := 24) hx hb dX0_put_1 (by decide) (fun c_1 => ?_) (fun c_1 => ?_)
  · subst hQe
    have hP9 := hP.sub (ws' := [(d0, .inr (0, [.int (nI np), .ref c0])), (c0, .inl (kc, N, .inl cg)), (s0, .inr (2, [.int (nI ov), .int (nI st), .int (nI tk), .int (nI gv), .int hc, .int ew, .int sl, .int ca, .int (nI lc), .ref s1, .ref s2])), (s1, .inl (ks1, 24, .inl rm)), (s2, .inl (ks2, 60, .inl lw))]) [0, 1, 2, 3, 4] rfl
    have hD9 := hD.sub (ws' := [(d0, .inr (0, [.int (nI np), .ref c0])), (c0, .inl (kc, N, .inl cg)), (s0, .inr (2, [.int (nI ov), .int (nI st), .int (nI tk), .int (nI gv), .int hc, .int ew, .int sl, .int ca, .int (nI lc), .ref s1, .ref s2])), (s1, .inl (ks1, 24, .inl rm)), (s2, .inl (ks2, 60, .inl lw))]) [0, 1, 2, 3, 4] (by decide) rfl
    have hK9 := hK.sub (tys' := [(kc, .int), (ks1, .int), (ks2, .int)]) [0, 1, 2] rfl
    subst hAe
    exact W.vret hx hb hr (fun t ht hW => ⟨⟨(), rfl, trivial, cg, (by first | assumption | omega), by rw [ht]; exact hP9, va_K.moved hW.alike hK9, hD9⟩, hS.F ht⟩) hS.2.2 dX0_put_24
  · refine lv_iload_n hx hb dX0_put_4 rfl (lv_at hl 1 rfl) ?_
    refine lv_aload_n hx hb dX0_put_5 rfl (lv_at hl 0 rfl) ?_
    refine va_get (D := (dC, dI)) (ci := 0) (v := .int (nI np)) (C := RX0) (T := TX0) (N := 2) hx hb hts inX0 hown hK hP 0 rfl rfl 0 (by decide) (hts (.fieldLink RX0 13 "StoreSlopes$Shelf" "places" "I") (List.mem_of_getElem? (i := 1) rfl)) (fun _ h9 => h9) rfl dX0_put_6 ?_
    refine lv_icmp_ge (tgt := 24) hx hb dX0_put_9 (by decide) (fun c_9 => ?_) (fun c_9 => ?_)
    · subst hQe
      have hP9 := hP.sub (ws' := [(d0, .inr (0, [.int (nI np), .ref c0])), (c0, .inl (kc, N, .inl cg)), (s0, .inr (2, [.int (nI ov), .int (nI st), .int (nI tk), .int (nI gv), .int hc, .int ew, .int sl, .int ca, .int (nI lc), .ref s1, .ref s2])), (s1, .inl (ks1, 24, .inl rm)), (s2, .inl (ks2, 60, .inl lw))]) [0, 1, 2, 3, 4] rfl
      have hD9 := hD.sub (ws' := [(d0, .inr (0, [.int (nI np), .ref c0])), (c0, .inl (kc, N, .inl cg)), (s0, .inr (2, [.int (nI ov), .int (nI st), .int (nI tk), .int (nI gv), .int hc, .int ew, .int sl, .int ca, .int (nI lc), .ref s1, .ref s2])), (s1, .inl (ks1, 24, .inl rm)), (s2, .inl (ks2, 60, .inl lw))]) [0, 1, 2, 3, 4] (by decide) rfl
      have hK9 := hK.sub (tys' := [(kc, .int), (ks1, .int), (ks2, .int)]) [0, 1, 2] rfl
      subst hAe
      exact W.vret hx hb hr (fun t ht hW => ⟨⟨(), rfl, trivial, cg, (by first | assumption | omega), by rw [ht]; exact hP9, va_K.moved hW.alike hK9, hD9⟩, hS.F ht⟩) hS.2.2 dX0_put_24
    · obtain ⟨j_1, hj_1, rfl⟩ := x_lt (by omega) c_1 c_9
      refine lv_aload_n hx hb dX0_put_12 rfl (lv_at hl 2 rfl) ?_
      refine lv_aload_n hx hb dX0_put_13 rfl (lv_at hl 0 rfl) ?_
      refine va_get (D := (dC, dI)) (ci := 0) (v := .ref c0) (C := RX0) (T := TX0) (N := 2) hx hb hts inX0 hown hK hP 0 rfl rfl 1 (by decide) (hts (.fieldLink RX0 21 "StoreSlopes$Shelf" "cells" "[I") (List.mem_of_getElem? (i := 2) rfl)) (fun _ h9 => h9) rfl dX0_put_14 ?_
      refine lv_iload_n hx hb dX0_put_17 rfl (lv_at hl 1 rfl) ?_
      refine lv_bipush (v := nI 93) hx hb dX0_put_18 (by decide) ?_
      refine lv_imul hx hb dX0_put_20 ?_
      refine tp_as (pk_mul j_1 93) ?_
      have hPc := hP.sub (ws' := [(s0, .inr (2, [.int (nI ov), .int (nI st), .int (nI tk), .int (nI gv), .int hc, .int ew, .int sl, .int ca, .int (nI lc), .ref s1, .ref s2])), (s1, .inl (ks1, 24, .inl rm)), (s2, .inl (ks2, 60, .inl lw)), (c0, .inl (kc, N, .inl cg))]) [2, 3, 4, 1] rfl
      have hKc := hK.sub (tys' := [(ks1, .int), (ks2, .int), (kc, .int)]) [1, 2, 0] rfl
      have hDc := hD.sub (ws' := [(s0, .inr (2, [.int (nI ov), .int (nI st), .int (nI tk), .int (nI gv), .int hc, .int ew, .int sl, .int ca, .int (nI lc), .ref s1, .ref s2])), (s1, .inl (ks1, 24, .inl rm)), (s2, .inl (ks2, 60, .inl lw)), (c0, .inl (kc, N, .inl cg))]) [2, 3, 4, 1] (by decide) rfl
      have hFc := va_free (wc := [(s0, .inr (2, [.int (nI ov), .int (nI st), .int (nI tk), .int (nI gv), .int hc, .int ew, .int sl, .int ca, .int (nI lc), .ref s1, .ref s2])), (s1, .inl (ks1, 24, .inl rm)), (s2, .inl (ks2, 60, .inl lw)), (c0, .inl (kc, N, .inl cg))]) hD hS hA [2, 3, 4, 1] rfl
      refine va_callv (va_runV (As := [.ref c0, .int (nI (j_1 * 93))]) (rest := []) ⟨hx, hb, hml, hown, hts⟩ (c_X2_write l dC dI s0 s1 s2 c0 ks1 ks2 kc s.heap.size ov st tk gv hc ew sl ca lc rm lw N cg (j_1 * 93) (by first | assumption | omega) (by first | assumption | omega) (by first | assumption | omega) (by first | assumption | omega) (by first | assumption | omega) (by first | assumption | omega) (by first | assumption | omega) (by first | assumption | omega)) (cwV 2 hts gX0_put_X2_write rfl rfl rfl (by decide +kernel) ⟨Nat.le_of_ble_eq_true rfl, Nat.le_of_ble_eq_true rfl⟩) ⟨fun a U g mk q => by obtain ⟨q0, q1, qP, qK, qD⟩ := q; exact ⟨q0, q1, qP, va_K.moved (u := U) (U := U.calling g mk a) (Vm.Alike.refl U.vm) qK, qD⟩, va_recv hKc hPc (ci := 2) (q0 := 0) rfl rfl, fun U hU hW => ⟨rfl, by rw [hU], by rw [hU]; exact hPc, va_K.moved hW.alike hKc, hDc.weaken (fun _ _ _ _ => trivial)⟩⟩ rfl rfl hl.1 rfl (lv_room (Nat.le_of_ble_eq_true rfl)) dX0_put_21 ⟨Nat.le_of_ble_eq_true rfl, Nat.le_of_ble_eq_true rfl⟩) hS (fun q _ h => hFc q h) hFc (fun u t H1 locs ht hvm hw hB hz1 hk1 hS => ?_)
      refine W.widen (k := 0) (n := 0) (Nat.le_of_ble_eq_true rfl) (Nat.le_of_ble_eq_true rfl) ?_
      obtain ⟨⟩ := u
      obtain ⟨cg_3, h_4, h_5, hP1, hK1, hD1⟩ := hB
      rw [ht] at hP1
      obtain ⟨hP, hD⟩ := va_join (wr := [(d0, .inr (0, [.int (nI np), .ref c0]))]) (w1 := [(s0, .inr (2, [.int (nI ov), .int (nI st), .int (nI tk), .int (nI gv), .int hc, .int ew, .int sl, .int ca, .int (nI lc), .ref s1, .ref s2])), (s1, .inl (ks1, 24, .inl rm)), (s2, .inl (ks2, 60, .inl lw)), (c0, .inl (kc, N, .inl cg_3))]) hP hD [2, 3, 4, 1] [0] rfl rfl (by decide) (by decide) hk1 hFc hP1 hD1
      clear hPc hDc hKc hFc hz1 hk1 ht hvm hP1 hK1 hD1 hw t
      generalize H1 = H at hP hS ⊢
      have hP := hP.sub (ws' := [(d0, .inr (0, [.int (nI np), .ref c0])), (c0, .inl (kc, N, .inl cg_3)), (s0, .inr (2, [.int (nI ov), .int (nI st), .int (nI tk), .int (nI gv), .int hc, .int ew, .int sl, .int ca, .int (nI lc), .ref s1, .ref s2])), (s1, .inl (ks1, 24, .inl rm)), (s2, .inl (ks2, 60, .inl lw))]) [0, 4, 1, 2, 3] rfl
      have hD := hD.sub (ws' := [(d0, .inr (0, [.int (nI np), .ref c0])), (c0, .inl (kc, N, .inl cg_3)), (s0, .inr (2, [.int (nI ov), .int (nI st), .int (nI tk), .int (nI gv), .int hc, .int ew, .int sl, .int ca, .int (nI lc), .ref s1, .ref s2])), (s1, .inl (ks1, 24, .inl rm)), (s2, .inl (ks2, 60, .inl lw))]) [0, 4, 1, 2, 3] (by decide) rfl
      have hsh : okSh np cg_3 := okSh_put i2 h_4 h_5
      subst hQe
      have hP9 := hP.sub (ws' := [(d0, .inr (0, [.int (nI np), .ref c0])), (c0, .inl (kc, N, .inl cg_3)), (s0, .inr (2, [.int (nI ov), .int (nI st), .int (nI tk), .int (nI gv), .int hc, .int ew, .int sl, .int ca, .int (nI lc), .ref s1, .ref s2])), (s1, .inl (ks1, 24, .inl rm)), (s2, .inl (ks2, 60, .inl lw))]) [0, 1, 2, 3, 4] rfl
      have hD9 := hD.sub (ws' := [(d0, .inr (0, [.int (nI np), .ref c0])), (c0, .inl (kc, N, .inl cg_3)), (s0, .inr (2, [.int (nI ov), .int (nI st), .int (nI tk), .int (nI gv), .int hc, .int ew, .int sl, .int ca, .int (nI lc), .ref s1, .ref s2])), (s1, .inl (ks1, 24, .inl rm)), (s2, .inl (ks2, 60, .inl lw))]) [0, 1, 2, 3, 4] (by decide) rfl
      have hK9 := hK.sub (tys' := [(kc, .int), (ks1, .int), (ks2, .int)]) [0, 1, 2] rfl
      subst hAe
      exact W.vret hx hb hr (fun t ht hW => ⟨⟨(), rfl, trivial, cg_3, (by first | assumption | omega), by rw [ht]; exact hP9, va_K.moved hW.alike hK9, hD9⟩, hS.F ht⟩) hS.2.2 dX0_put_24
set_option maxHeartbeats 4000000 in
set_option maxRecDepth 100000 in
theorem c_X0_take (l : Launch) (dC : Nat → ClassId) (dI : Nat → Nat → Nat) (d0 c0 s0 s1 s2 : Nat) (kc ks1 ks2 : ClassId) (sz : Nat) (np : Nat) (N : Nat) (cg : Nat → Int32) (ov : Nat) (st : Nat) (tk : Nat) (gv : Nat) (hc : Int32) (ew : Int32) (sl : Int32) (ca : Int32) (lc : Nat) (rm : Nat → Int32) (lw : Nat → Int32) (pl : Int32) (i0 : N = np * 93) (i1 : np ≤ 40) (i2 : okSh np cg) (i3 : ov ≤ 24) (i4 : st ≤ 60) (i5 : tk ≤ 9) (i6 : gv ≤ 9) (i7 : lc ≤ 12) (i8 : bdA 60 24 rm) : Met l yX0_take wsX0_take ({ frames := 2, cells := 0, slots := 0, locals := 48 }) (va_Pc [.ref d0, .int pl, .ref s0] (fun U => U.heap.size = sz ∧ va_P (dC, dI) vwCl [(d0, .inr (0, [.int (nI np), .ref c0])), (c0, .inl (kc, N, .inl cg)), (s0, .inr (2, [.int (nI ov), .int (nI st), .int (nI tk), .int (nI gv), .int hc, .int ew, .int sl, .int ca, .int (nI lc), .ref s1, .ref s2])), (s1, .inl (ks1, 24, .inl rm)), (s2, .inl (ks2, 60, .inl lw))] U.heap ∧ va_K (dC, dI) vwCl [(kc, .int), (ks1, .int), (ks2, .int)] U ∧ va_D (fun _ => True) [(d0, .inr (0, [.int (nI np), .ref c0])), (c0, .inl (kc, N, .inl cg)), (s0, .inr (2, [.int (nI ov), .int (nI st), .int (nI tk), .int (nI gv), .int hc, .int ew, .int sl, .int ca, .int (nI lc), .ref s1, .ref s2])), (s1, .inl (ks1, 24, .inl rm)), (s2, .inl (ks2, 60, .inl lw))])) (va_Qv (fun _ : Unit => True) (fun _ t => ∃ (ov' : Nat) (st' : Nat) (tk' : Nat) (gv' : Nat) (hc' : Int32) (ew' : Int32) (sl' : Int32) (ca' : Int32) (lc' : Nat) (rm' : Nat → Int32) (lw' : Nat → Int32), ov' ≤ 24 ∧ st' ≤ 60 ∧ tk' ≤ 9 ∧ gv' ≤ 9 ∧ lc' ≤ 12 ∧ bdA 60 24 rm' ∧ va_P (dC, dI) vwCl [(d0, .inr (0, [.int (nI np), .ref c0])), (c0, .inl (kc, N, .inl cg)), (s0, .inr (2, [.int (nI ov'), .int (nI st'), .int (nI tk'), .int (nI gv'), .int hc', .int ew', .int sl', .int ca', .int (nI lc'), .ref s1, .ref s2])), (s1, .inl (ks1, 24, .inl rm')), (s2, .inl (ks2, 60, .inl lw'))] t.heap ∧ va_K (dC, dI) vwCl [(kc, .int), (ks1, .int), (ks2, .int)] t ∧ va_D (va_A [(d0, .inr (0, [.int (nI np), .ref c0])), (c0, .inl (kc, N, .inl cg)), (s0, .inr (2, [.int (nI ov), .int (nI st), .int (nI tk), .int (nI gv), .int hc, .int ew, .int sl, .int ca, .int (nI lc), .ref s1, .ref s2])), (s1, .inl (ks1, 24, .inl rm)), (s2, .inl (ks2, 60, .inl lw))] sz) [(d0, .inr (0, [.int (nI np), .ref c0])), (c0, .inl (kc, N, .inl cg)), (s0, .inr (2, [.int (nI ov'), .int (nI st'), .int (nI tk'), .int (nI gv'), .int hc', .int ew', .int sl', .int ca', .int (nI lc'), .ref s1, .ref s2])), (s1, .inl (ks1, 24, .inl rm')), (s2, .inl (ks2, 60, .inl lw'))]) (va_A [(d0, .inr (0, [.int (nI np), .ref c0])), (c0, .inl (kc, N, .inl cg)), (s0, .inr (2, [.int (nI ov), .int (nI st), .int (nI tk), .int (nI gv), .int hc, .int ew, .int sl, .int ca, .int (nI lc), .ref s1, .ref s2])), (s1, .inl (ks1, 24, .inl rm)), (s2, .inl (ks2, 60, .inl lw))] sz)) 0 0 (va_A [(d0, .inr (0, [.int (nI np), .ref c0])), (c0, .inl (kc, N, .inl cg)), (s0, .inr (2, [.int (nI ov), .int (nI st), .int (nI tk), .int (nI gv), .int hc, .int ew, .int sl, .int ca, .int (nI lc), .ref s1, .ref s2])), (s1, .inl (ks1, 24, .inl rm)), (s2, .inl (ks2, 60, .inl lw))] sz) := by
  refine Met.ofW (cc := cX0_take) (maxL := 3) (ret := none) (by decide) rfl ?_
  intro p e s m args below meth c s₁ B hml hv
  obtain ⟨rfl, hsz, hP, hK, hD0⟩ := hv
  have hx := B.exec
  have hb := B.bytes
  have hr := B.returns
  have hts := atoms_spec (ws := wsX0_take) B.pre
  have hown : s.vm.findClass RX0 = some m.cls := findClass_of_methodNamed B.named
  have hlocks := B.notSynchronized
  have inX0 : ∀ w ∈ wsX00, w ∈ wsX0_take := fun _ h => List.mem_cons_of_mem _ (List.mem_append_left _ (List.mem_append_right _ h))
  have inX2 : ∀ w ∈ wsX20, w ∈ wsX0_take := fun _ h => List.mem_cons_of_mem _ (List.mem_append_right _ h)
  subst hsz
  have hD := hD0.self (sz := s.heap.size)
  generalize hAe : va_A [(d0, .inr (0, [.int (nI np), .ref c0])), (c0, .inl (kc, N, .inl cg)), (s0, .inr (2, [.int (nI ov), .int (nI st), .int (nI tk), .int (nI gv), .int hc, .int ew, .int sl, .int ca, .int (nI lc), .ref s1, .ref s2])), (s1, .inl (ks1, 24, .inl rm)), (s2, .inl (ks2, 60, .inl lw))] s.heap.size = A at hD ⊢
  have hA : ∀ q : Nat, s.heap.size ≤ q → A q := fun q h => by rw [← hAe]; exact Or.inr h
  have hS : va_S A s.heap s.heap [] := va_S.rf
  have hl := lv_entry ([.ref d0, .int pl, .ref s0]) (n := 3) (Nat.le_of_ble_eq_true rfl)
  rw [lg_entry_eq]
  generalize (lg_sl ([.ref d0, .int pl, .ref s0]) ++ List.replicate (3 - (lg_sl ([.ref d0, .int pl, .ref s0])).length) Slot.unset).toArray = ls at hl ⊢
  generalize hQe : MQ below _ _ s 0 0 _ = Q
  generalize ([.ref d0, .int pl, .ref s0] : List Value).toArray = args at hts hQe ⊢
  have hl : lv_has ls 3 [(0, .ref d0), (1, .int pl), (2, .ref s0)] := hl
  refine lv_iload_n hx hb dX0_take_0 rfl (lv_at hl 1 rfl) ?_
  refine lv_if_lt (tgt := 24) hx hb dX0_take_1 (by decide) (fun c_1 => ?_) (fun c_1 => ?_)
  · subst hQe
    have hP9 := hP.sub (ws' := [(d0, .inr (0, [.int (nI np), .ref c0])), (c0, .inl (kc, N, .inl cg)), (s0, .inr (2, [.int (nI ov), .int (nI st), .int (nI tk), .int (nI gv), .int hc, .int ew, .int sl, .int ca, .int (nI lc), .ref s1, .ref s2])), (s1, .inl (ks1, 24, .inl rm)), (s2, .inl (ks2, 60, .inl lw))]) [0, 1, 2, 3, 4] rfl
    have hD9 := hD.sub (ws' := [(d0, .inr (0, [.int (nI np), .ref c0])), (c0, .inl (kc, N, .inl cg)), (s0, .inr (2, [.int (nI ov), .int (nI st), .int (nI tk), .int (nI gv), .int hc, .int ew, .int sl, .int ca, .int (nI lc), .ref s1, .ref s2])), (s1, .inl (ks1, 24, .inl rm)), (s2, .inl (ks2, 60, .inl lw))]) [0, 1, 2, 3, 4] (by decide) rfl
    have hK9 := hK.sub (tys' := [(kc, .int), (ks1, .int), (ks2, .int)]) [0, 1, 2] rfl
    subst hAe
    exact W.vret hx hb hr (fun t ht hW => ⟨⟨(), rfl, trivial, ov, st, tk, gv, hc, ew, sl, ca, lc, rm, lw, (by first | assumption | omega), (by first | assumption | omega), (by first | assumption | omega), (by first | assumption | omega), (by first | assumption | omega), (by first | assumption | omega), by rw [ht]; exact hP9, va_K.moved hW.alike hK9, hD9⟩, hS.F ht⟩) hS.2.2 dX0_take_24
  · refine lv_iload_n hx hb dX0_take_4 rfl (lv_at hl 1 rfl) ?_
    refine lv_aload_n hx hb dX0_take_5 rfl (lv_at hl 0 rfl) ?_
    refine va_get (D := (dC, dI)) (ci := 0) (v := .int (nI np)) (C := RX0) (T := TX0) (N := 2) hx hb hts inX0 hown hK hP 0 rfl rfl 0 (by decide) (hts (.fieldLink RX0 13 "StoreSlopes$Shelf" "places" "I") (List.mem_of_getElem? (i := 1) rfl)) (fun _ h9 => h9) rfl dX0_take_6 ?_
    refine lv_icmp_ge (tgt := 24) hx hb dX0_take_9 (by decide) (fun c_9 => ?_) (fun c_9 => ?_)
    · subst hQe
      have hP9 := hP.sub (ws' := [(d0, .inr (0, [.int (nI np), .ref c0])), (c0, .inl (kc, N, .inl cg)), (s0, .inr (2, [.int (nI ov), .int (nI st), .int (nI tk), .int (nI gv), .int hc, .int ew, .int sl, .int ca, .int (nI lc), .ref s1, .ref s2])), (s1, .inl (ks1, 24, .inl rm)), (s2, .inl (ks2, 60, .inl lw))]) [0, 1, 2, 3, 4] rfl
      have hD9 := hD.sub (ws' := [(d0, .inr (0, [.int (nI np), .ref c0])), (c0, .inl (kc, N, .inl cg)), (s0, .inr (2, [.int (nI ov), .int (nI st), .int (nI tk), .int (nI gv), .int hc, .int ew, .int sl, .int ca, .int (nI lc), .ref s1, .ref s2])), (s1, .inl (ks1, 24, .inl rm)), (s2, .inl (ks2, 60, .inl lw))]) [0, 1, 2, 3, 4] (by decide) rfl
      have hK9 := hK.sub (tys' := [(kc, .int), (ks1, .int), (ks2, .int)]) [0, 1, 2] rfl
      subst hAe
      exact W.vret hx hb hr (fun t ht hW => ⟨⟨(), rfl, trivial, ov, st, tk, gv, hc, ew, sl, ca, lc, rm, lw, (by first | assumption | omega), (by first | assumption | omega), (by first | assumption | omega), (by first | assumption | omega), (by first | assumption | omega), (by first | assumption | omega), by rw [ht]; exact hP9, va_K.moved hW.alike hK9, hD9⟩, hS.F ht⟩) hS.2.2 dX0_take_24
    · obtain ⟨j_1, hj_1, rfl⟩ := x_lt (by omega) c_1 c_9
      refine lv_aload_n hx hb dX0_take_12 rfl (lv_at hl 2 rfl) ?_
      refine lv_aload_n hx hb dX0_take_13 rfl (lv_at hl 0 rfl) ?_
      refine va_get (D := (dC, dI)) (ci := 0) (v := .ref c0) (C := RX0) (T := TX0) (N := 2) hx hb hts inX0 hown hK hP 0 rfl rfl 1 (by decide) (hts (.fieldLink RX0 21 "StoreSlopes$Shelf" "cells" "[I") (List.mem_of_getElem? (i := 2) rfl)) (fun _ h9 => h9) rfl dX0_take_14 ?_
      refine lv_iload_n hx hb dX0_take_17 rfl (lv_at hl 1 rfl) ?_
      refine lv_bipush (v := nI 93) hx hb dX0_take_18 (by decide) ?_
      refine lv_imul hx hb dX0_take_20 ?_
      refine tp_as (pk_mul j_1 93) ?_
      have hPc := hP.sub (ws' := [(s0, .inr (2, [.int (nI ov), .int (nI st), .int (nI tk), .int (nI gv), .int hc, .int ew, .int sl, .int ca, .int (nI lc), .ref s1, .ref s2])), (s1, .inl (ks1, 24, .inl rm)), (s2, .inl (ks2, 60, .inl lw)), (c0, .inl (kc, N, .inl cg))]) [2, 3, 4, 1] rfl
      have hKc := hK.sub (tys' := [(ks1, .int), (ks2, .int), (kc, .int)]) [1, 2, 0] rfl
      have hDc := hD.sub (ws' := [(s0, .inr (2, [.int (nI ov), .int (nI st), .int (nI tk), .int (nI gv), .int hc, .int ew, .int sl, .int ca, .int (nI lc), .ref s1, .ref s2])), (s1, .inl (ks1, 24, .inl rm)), (s2, .inl (ks2, 60, .inl lw)), (c0, .inl (kc, N, .inl cg))]) [2, 3, 4, 1] (by decide) rfl
      have hFc := va_free (wc := [(s0, .inr (2, [.int (nI ov), .int (nI st), .int (nI tk), .int (nI gv), .int hc, .int ew, .int sl, .int ca, .int (nI lc), .ref s1, .ref s2])), (s1, .inl (ks1, 24, .inl rm)), (s2, .inl (ks2, 60, .inl lw)), (c0, .inl (kc, N, .inl cg))]) hD hS hA [2, 3, 4, 1] rfl
      refine va_callv (va_runV (As := [.ref c0, .int (nI (j_1 * 93))]) (rest := []) ⟨hx, hb, hml, hown, hts⟩ (c_X2_read l dC dI s0 s1 s2 c0 ks1 ks2 kc s.heap.size ov st tk gv hc ew sl ca lc rm lw N cg (j_1 * 93) (by first | assumption | omega) (by first | assumption | omega) (by first | assumption | omega) (by first | assumption | omega) (by first | assumption | omega) (by first | assumption | omega) (by first | assumption | omega) (by first | assumption | omega) (i2 _ (by omega))) (cwV 2 hts gX0_take_X2_read rfl rfl rfl (by decide +kernel) ⟨Nat.le_of_ble_eq_true rfl, Nat.le_of_ble_eq_true rfl⟩) ⟨fun a U g mk q => by obtain ⟨q0, q1, qP, qK, qD⟩ := q; exact ⟨q0, q1, qP, va_K.moved (u := U) (U := U.calling g mk a) (Vm.Alike.refl U.vm) qK, qD⟩, va_recv hKc hPc (ci := 2) (q0 := 0) rfl rfl, fun U hU hW => ⟨rfl, by rw [hU], by rw [hU]; exact hPc, va_K.moved hW.alike hKc, hDc.weaken (fun _ _ _ _ => trivial)⟩⟩ rfl rfl hl.1 rfl (lv_room (Nat.le_of_ble_eq_true rfl)) dX0_take_21 ⟨Nat.le_of_ble_eq_true rfl, Nat.le_of_ble_eq_true rfl⟩) hS (fun q _ h => hFc q h) hFc (fun u t H1 locs ht hvm hw hB hz1 hk1 hS => ?_)
      refine W.widen (k := 0) (n := 0) (Nat.le_of_ble_eq_true rfl) (Nat.le_of_ble_eq_true rfl) ?_
      obtain ⟨⟩ := u
      obtain ⟨ov_3, st_4, tk_5, gv_6, hc_7, ew_8, sl_9, ca_10, lc_11, rm_12, lw_13, h_14, h_15, h_16, h_17, h_18, h_19, hP1, hK1, hD1⟩ := hB
      rw [ht] at hP1
      obtain ⟨hP, hD⟩ := va_join (wr := [(d0, .inr (0, [.int (nI np), .ref c0]))]) (w1 := [(s0, .inr (2, [.int (nI ov_3), .int (nI st_4), .int (nI tk_5), .int (nI gv_6), .int hc_7, .int ew_8, .int sl_9, .int ca_10, .int (nI lc_11), .ref s1, .ref s2])), (s1, .inl (ks1, 24, .inl rm_12)), (s2, .inl (ks2, 60, .inl lw_13)), (c0, .inl (kc, N, .inl cg))]) hP hD [2, 3, 4, 1] [0] rfl rfl (by decide) (by decide) hk1 hFc hP1 hD1
      clear hPc hDc hKc hFc hz1 hk1 ht hvm hP1 hK1 hD1 hw t
      generalize H1 = H at hP hS ⊢
      have hP := hP.sub (ws' := [(d0, .inr (0, [.int (nI np), .ref c0])), (c0, .inl (kc, N, .inl cg)), (s0, .inr (2, [.int (nI ov_3), .int (nI st_4), .int (nI tk_5), .int (nI gv_6), .int hc_7, .int ew_8, .int sl_9, .int ca_10, .int (nI lc_11), .ref s1, .ref s2])), (s1, .inl (ks1, 24, .inl rm_12)), (s2, .inl (ks2, 60, .inl lw_13))]) [0, 4, 1, 2, 3] rfl
      have hD := hD.sub (ws' := [(d0, .inr (0, [.int (nI np), .ref c0])), (c0, .inl (kc, N, .inl cg)), (s0, .inr (2, [.int (nI ov_3), .int (nI st_4), .int (nI tk_5), .int (nI gv_6), .int hc_7, .int ew_8, .int sl_9, .int ca_10, .int (nI lc_11), .ref s1, .ref s2])), (s1, .inl (ks1, 24, .inl rm_12)), (s2, .inl (ks2, 60, .inl lw_13))]) [0, 4, 1, 2, 3] (by decide) rfl
      subst hQe
      have hP9 := hP.sub (ws' := [(d0, .inr (0, [.int (nI np), .ref c0])), (c0, .inl (kc, N, .inl cg)), (s0, .inr (2, [.int (nI ov_3), .int (nI st_4), .int (nI tk_5), .int (nI gv_6), .int hc_7, .int ew_8, .int sl_9, .int ca_10, .int (nI lc_11), .ref s1, .ref s2])), (s1, .inl (ks1, 24, .inl rm_12)), (s2, .inl (ks2, 60, .inl lw_13))]) [0, 1, 2, 3, 4] rfl
      have hD9 := hD.sub (ws' := [(d0, .inr (0, [.int (nI np), .ref c0])), (c0, .inl (kc, N, .inl cg)), (s0, .inr (2, [.int (nI ov_3), .int (nI st_4), .int (nI tk_5), .int (nI gv_6), .int hc_7, .int ew_8, .int sl_9, .int ca_10, .int (nI lc_11), .ref s1, .ref s2])), (s1, .inl (ks1, 24, .inl rm_12)), (s2, .inl (ks2, 60, .inl lw_13))]) [0, 1, 2, 3, 4] (by decide) rfl
      have hK9 := hK.sub (tys' := [(kc, .int), (ks1, .int), (ks2, .int)]) [0, 1, 2] rfl
      subst hAe
      exact W.vret hx hb hr (fun t ht hW => ⟨⟨(), rfl, trivial, ov_3, st_4, tk_5, gv_6, hc_7, ew_8, sl_9, ca_10, lc_11, rm_12, lw_13, (by first | assumption | omega), (by first | assumption | omega), (by first | assumption | omega), (by first | assumption | omega), (by first | assumption | omega), (by first | assumption | omega), by rw [ht]; exact hP9, va_K.moved hW.alike hK9, hD9⟩, hS.F ht⟩) hS.2.2 dX0_take_24
