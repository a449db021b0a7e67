set_option maxHeartbeats 4000000 in
set_option maxRecDepth 100000 in
theorem c_X4_layHour (l : Launch) (dC : Nat → ClassId) (dI : Nat → Nat → Nat) (m0 m1 m7 m2 m3 m4 m5 m6 m8 : Nat) (km1 km7 : ClassId) (sz : Nat) (bk : Nat) (sd : Int32) (cl : Int32) (pc : Int32) (op : Int32) (nw : Nat → Int32) (vl : Nat → Int32) (h : Nat) (i0 : bk ≤ 40) (i1 : okN nw) (g0 : h < 24) : Met l yX4_layHour wsX4_layHour ({ frames := 4, cells := 0, slots := 0, locals := 90 }) (va_Pc [.ref m0, .int (nI h)] (fun U => U.heap.size = sz ∧ va_P (dC, dI) vwCl [(m0, .inr (4, [.ref m1, .ref m2, .int (nI bk), .ref m3, .ref m4, .ref m5, .ref m6, .int sd, .ref m7, .ref m8, .int cl, .int pc, .int op])), (m1, .inl (km1, 93, .inl nw)), (m7, .inl (km7, 1525, .inl vl))] U.heap ∧ va_K (dC, dI) vwCl [(km1, .int), (km7, .int)] U ∧ va_D (fun _ => True) [(m0, .inr (4, [.ref m1, .ref m2, .int (nI bk), .ref m3, .ref m4, .ref m5, .ref m6, .int sd, .ref m7, .ref m8, .int cl, .int pc, .int op])), (m1, .inl (km1, 93, .inl nw)), (m7, .inl (km7, 1525, .inl vl))])) (va_Qv (fun _ : Unit => True) (fun _ t => ∃ (vl' : Nat → Int32), (∀ q : Nat, q < 61 * h ∨ 61 * h + 61 ≤ q → vl' q = vl q) ∧ (∀ l : Nat, l < 61 → layOK nw cl pc op vl' h l) ∧ va_P (dC, dI) vwCl [(m0, .inr (4, [.ref m1, .ref m2, .int (nI bk), .ref m3, .ref m4, .ref m5, .ref m6, .int sd, .ref m7, .ref m8, .int cl, .int pc, .int op])), (m1, .inl (km1, 93, .inl nw)), (m7, .inl (km7, 1525, .inl vl'))] t.heap ∧ va_K (dC, dI) vwCl [(km1, .int), (km7, .int)] t ∧ va_D (va_A [(m0, .inr (4, [.ref m1, .ref m2, .int (nI bk), .ref m3, .ref m4, .ref m5, .ref m6, .int sd, .ref m7, .ref m8, .int cl, .int pc, .int op])), (m1, .inl (km1, 93, .inl nw)), (m7, .inl (km7, 1525, .inl vl))] sz) [(m0, .inr (4, [.ref m1, .ref m2, .int (nI bk), .ref m3, .ref m4, .ref m5, .ref m6, .int sd, .ref m7, .ref m8, .int cl, .int pc, .int op])), (m1, .inl (km1, 93, .inl nw)), (m7, .inl (km7, 1525, .inl vl'))]) (va_A [(m0, .inr (4, [.ref m1, .ref m2, .int (nI bk), .ref m3, .ref m4, .ref m5, .ref m6, .int sd, .ref m7, .ref m8, .int cl, .int pc, .int op])), (m1, .inl (km1, 93, .inl nw)), (m7, .inl (km7, 1525, .inl vl))] sz)) 0 0 (va_A [(m0, .inr (4, [.ref m1, .ref m2, .int (nI bk), .ref m3, .ref m4, .ref m5, .ref m6, .int sd, .ref m7, .ref m8, .int cl, .int pc, .int op])), (m1, .inl (km1, 93, .inl nw)), (m7, .inl (km7, 1525, .inl vl))] sz) := by
  refine Met.ofW (cc := cX4_layHour) (maxL := 12) (ret := none) (by decide) rfl ?_
  intro p e s m args below meth c s₁ B hml hv
  obtain ⟨rfl, hsz, hP, hK, hD0⟩ := hv
  have hx := B.exec
  have hb := B.bytes
  have hr := B.returns
  have hts := atoms_spec (ws := wsX4_layHour) B.pre
  have hown : s.vm.findClass RX4 = some m.cls := findClass_of_methodNamed B.named
  have hlocks := B.notSynchronized
  have inX4 : ∀ w ∈ wsX40, w ∈ wsX4_layHour := fun _ h => List.mem_cons_of_mem _ (List.mem_append_right _ h)
  subst hsz
  have hD := hD0.self (sz := s.heap.size)
  generalize hAe : va_A [(m0, .inr (4, [.ref m1, .ref m2, .int (nI bk), .ref m3, .ref m4, .ref m5, .ref m6, .int sd, .ref m7, .ref m8, .int cl, .int pc, .int op])), (m1, .inl (km1, 93, .inl nw)), (m7, .inl (km7, 1525, .inl vl))] s.heap.size = A at hD ⊢
  have hA : ∀ q : Nat, s.heap.size ≤ q → A q := fun q h => by rw [← hAe]; exact Or.inr h
  have hS : va_S A s.heap s.heap [] := va_S.rf
  have hl := lv_entry ([.ref m0, .int (nI h)]) (n := 12) (Nat.le_of_ble_eq_true rfl)
  rw [lg_entry_eq]
  generalize (lg_sl ([.ref m0, .int (nI h)]) ++ List.replicate (12 - (lg_sl ([.ref m0, .int (nI h)])).length) Slot.unset).toArray = ls at hl ⊢
  generalize hQe : MQ below _ _ s 0 0 _ = Q
  generalize ([.ref m0, .int (nI h)] : List Value).toArray = args at hts hQe ⊢
  have hl : lv_has ls 12 [(0, .ref m0), (1, .int (nI h))] := hl
  obtain ⟨tk, htk, etk⟩ := i1.2.2.1
  obtain ⟨gv, hgv, egv⟩ := i1.2.2.2.1
  refine lv_aload_n hx hb dX4_layHour_0 rfl (lv_at hl 0 rfl) ?_
  refine lv_iload_n hx hb dX4_layHour_1 rfl (lv_at hl 1 rfl) ?_
  have hPc := hP.sub (ws' := [(m0, .inr (4, [.ref m1, .ref m2, .int (nI bk), .ref m3, .ref m4, .ref m5, .ref m6, .int sd, .ref m7, .ref m8, .int cl, .int pc, .int op])), (m1, .inl (km1, 93, .inl nw))]) [0, 1] rfl
  have hKc := hK.sub (tys' := [(km1, .int)]) [0] rfl
  refine va_calli (va_runV (As := [.int (nI h)]) (rest := []) ⟨hx, hb, hml, hown, hts⟩ (c_X4_priceOf l dC dI m0 m1 m2 m3 m4 m5 m6 m7 m8 km1 bk sd cl pc op nw (nI h) (by first | assumption | omega) (by first | assumption | omega) ) (cwV 1 hts gX4_layHour_X4_priceOf rfl rfl rfl (by decide +kernel) ⟨Nat.le_of_ble_eq_true rfl, Nat.le_of_ble_eq_true rfl⟩) ⟨fun a U g mk q => by obtain ⟨q0, qP, qK⟩ := q; exact ⟨q0, qP, va_K.moved (u := U) (U := U.calling g mk a) (Vm.Alike.refl U.vm) qK⟩, va_recv hKc hPc (ci := 4) (q0 := 0) rfl rfl, fun U hU hW => ⟨rfl, by rw [hU]; exact hPc, va_K.moved hW.alike hKc⟩⟩ rfl rfl hl.1 rfl (lv_room (Nat.le_of_ble_eq_true rfl)) dX4_layHour_2 ⟨Nat.le_of_ble_eq_true rfl, Nat.le_of_ble_eq_true rfl⟩) hS (fun q _ h => h.elim) (fun q h => h.elim) (fun r_1 u9 t9 H1 locs ht hvm hw hB hz1 hk1 hS => ?_)
  refine W.widen (k := 0) (n := 0) (Nat.le_of_ble_eq_true rfl) (Nat.le_of_ble_eq_true rfl) ?_
  have hP := hP.kept (H1 := H1) (fun k q hk => hk1 q.1 (hP k q hk).lt (fun h => h))
  clear hz1 hk1 hB ht hvm t9
  generalize H1 = H at hP hS ⊢
  have hP : va_P (dC, dI) vwCl [(m0, .inr (4, [.ref m1, .ref m2, .int (nI bk), .ref m3, .ref m4, .ref m5, .ref m6, .int sd, .ref m7, .ref m8, .int cl, .int pc, .int op])), (m1, .inl (km1, 93, .inl nw)), (m7, .inl (km7, 1525, .inl vl))] H := hP
  subst hw
  refine lv_istore_n (lv' := [(2, .int (mp_po nw pc op (nI h))), (0, .ref m0), (1, .int (nI h))]) hx hb dX4_layHour_5 rfl hl (by decide) rfl (fun ls hl => ?_)
  refine lv_iload_n hx hb dX4_layHour_6 rfl (lv_at hl 2 rfl) ?_
  refine lv_aload_n hx hb dX4_layHour_7 rfl (lv_at hl 1 rfl) ?_
  refine va_get (D := (dC, dI)) (ci := 4) (v := .int cl) (C := RX4) (T := TX4) (N := 13) hx hb hts inX4 hown hK hP 0 rfl rfl 10 (by decide) (hts (.fieldLink RX4 35 "StoreSlopesModel" "closed" "I") (List.mem_of_getElem? (i := 1) rfl)) (fun _ h9 => h9) rfl dX4_layHour_8 ?_
  have J24 : ∀ (up : Nat) (H : Heap) (locs : List Loc) (ls : Array Slot), up ≤ 9 → va_P (dC, dI) vwCl [(m0, .inr (4, [.ref m1, .ref m2, .int (nI bk), .ref m3, .ref m4, .ref m5, .ref m6, .int sd, .ref m7, .ref m8, .int cl, .int pc, .int op])), (m1, .inl (km1, 93, .inl nw)), (m7, .inl (km7, 1525, .inl vl))] H → va_D A [(m0, .inr (4, [.ref m1, .ref m2, .int (nI bk), .ref m3, .ref m4, .ref m5, .ref m6, .int sd, .ref m7, .ref m8, .int cl, .int pc, .int op])), (m1, .inl (km1, 93, .inl nw)), (m7, .inl (km7, 1525, .inl vl))] → va_S A s.heap H locs → lv_has ls 12 [(0, .ref m0), (1, .int (nI h)), (2, .int (mp_po nw pc op (nI h)))] → W p l e (headSpec wsX4_layHour { frames := 4, cells := 0, slots := 0, locals := 90 }).room s m args below meth c H locs 0 0 Q (F0 m 24 ls [.int (nI up)]) := by
    intro up H locs ls hJ24_0 hP hD hS hl
    refine lv_istore_n (lv' := [(3, .int (nI up)), (0, .ref m0), (1, .int (nI h)), (2, .int (mp_po nw pc op (nI h)))]) hx hb dX4_layHour_24 rfl hl (by decide) rfl (fun ls hl => ?_)
    refine lv_iload_n hx hb dX4_layHour_25 rfl (lv_at hl 2 rfl) ?_
    refine lv_aload_n hx hb dX4_layHour_26 rfl (lv_at hl 1 rfl) ?_
    refine va_get (D := (dC, dI)) (ci := 4) (v := .int cl) (C := RX4) (T := TX4) (N := 13) hx hb hts inX4 hown hK hP 0 rfl rfl 10 (by decide) (hts (.fieldLink RX4 35 "StoreSlopesModel" "closed" "I") (List.mem_of_getElem? (i := 1) rfl)) (fun _ h9 => h9) rfl dX4_layHour_27 ?_
    have J43 : ∀ (dw : Nat) (H : Heap) (locs : List Loc) (ls : Array Slot), dw ≤ 9 → dw = mp_dn nw cl h → va_P (dC, dI) vwCl [(m0, .inr (4, [.ref m1, .ref m2, .int (nI bk), .ref m3, .ref m4, .ref m5, .ref m6, .int sd, .ref m7, .ref m8, .int cl, .int pc, .int op])), (m1, .inl (km1, 93, .inl nw)), (m7, .inl (km7, 1525, .inl vl))] H → va_D A [(m0, .inr (4, [.ref m1, .ref m2, .int (nI bk), .ref m3, .ref m4, .ref m5, .ref m6, .int sd, .ref m7, .ref m8, .int cl, .int pc, .int op])), (m1, .inl (km1, 93, .inl nw)), (m7, .inl (km7, 1525, .inl vl))] → va_S A s.heap H locs → lv_has ls 12 [(0, .ref m0), (1, .int (nI h)), (2, .int (mp_po nw pc op (nI h))), (3, .int (nI up))] → W p l e (headSpec wsX4_layHour { frames := 4, cells := 0, slots := 0, locals := 90 }).room s m args below meth c H locs 0 0 Q (F0 m 43 ls [.int (nI dw)]) := by
      intro dw H locs ls hJ43_0 hJ43_1 hP hD hS hl
      refine lv_istore (lv' := [(4, .int (nI dw)), (0, .ref m0), (1, .int (nI h)), (2, .int (mp_po nw pc op (nI h))), (3, .int (nI up))]) hx hb dX4_layHour_43 hl (by decide) rfl (fun ls hl => ?_)
      have dwe := hJ43_1
      refine lv_iconst (v := nI 0) hx hb dX4_layHour_45 (by decide) ?_
      refine lv_istore (lv' := [(5, .int (nI 0)), (4, .int (nI dw)), (0, .ref m0), (1, .int (nI h)), (2, .int (mp_po nw pc op (nI h))), (3, .int (nI up))]) hx hb dX4_layHour_46 hl (by decide) rfl (fun ls hl => ?_)
      have L48 : ∀ (n : Nat) (l_ : Nat) (vlv : Nat → Int32) (H : Heap) (locs : List Loc) (ls : Array Slot), l_ ≤ 61 → (∀ q : Nat, q < 61 * h ∨ 61 * h + 61 ≤ q → vlv q = vl q) → (∀ k : Nat, k < l_ → layOK nw cl pc op vlv h k) → 61 - l_ < n → va_P (dC, dI) vwCl [(m0, .inr (4, [.ref m1, .ref m2, .int (nI bk), .ref m3, .ref m4, .ref m5, .ref m6, .int sd, .ref m7, .ref m8, .int cl, .int pc, .int op])), (m1, .inl (km1, 93, .inl nw)), (m7, .inl (km7, 1525, .inl vlv))] H → va_D A [(m0, .inr (4, [.ref m1, .ref m2, .int (nI bk), .ref m3, .ref m4, .ref m5, .ref m6, .int sd, .ref m7, .ref m8, .int cl, .int pc, .int op])), (m1, .inl (km1, 93, .inl nw)), (m7, .inl (km7, 1525, .inl vlv))] → va_S A s.heap H locs → lv_has ls 12 [(0, .ref m0), (1, .int (nI h)), (2, .int (mp_po nw pc op (nI h))), (3, .int (nI up)), (4, .int (nI dw)), (5, .int (nI l_))] → W p l e (headSpec wsX4_layHour { frames := 4, cells := 0, slots := 0, locals := 90 }).room s m args below meth c H locs 0 0 Q (F0 m 48 ls []) := by
        intro n
        induction n with
        | zero => intro l_ vlv H locs ls hL48_0 hL48_1 hL48_2 hn; exact absurd hn (Nat.not_lt_zero _)
        | succ n ih48 =>
          intro l_ vlv H locs ls hL48_0 hL48_1 hL48_2 hn hP hD hS hl
          refine lv_iload hx hb dX4_layHour_48 (lv_at hl 5 rfl) ?_
          refine lv_bipush (v := nI 61) hx hb dX4_layHour_50 (by decide) ?_
          refine lv_icmp_ge (tgt := 207) hx hb dX4_layHour_52 (by decide) (fun c_52 => ?_) (fun c_52 => ?_)
          · have c_52 := (nI_leI (by omega : 61 < 2 ^ 31) (by omega : l_ < 2 ^ 31)).mp c_52
            subst hQe
            have hP9 := hP.sub (ws' := [(m0, .inr (4, [.ref m1, .ref m2, .int (nI bk), .ref m3, .ref m4, .ref m5, .ref m6, .int sd, .ref m7, .ref m8, .int cl, .int pc, .int op])), (m1, .inl (km1, 93, .inl nw)), (m7, .inl (km7, 1525, .inl vlv))]) [0, 1, 2] rfl
            have hD9 := hD.sub (ws' := [(m0, .inr (4, [.ref m1, .ref m2, .int (nI bk), .ref m3, .ref m4, .ref m5, .ref m6, .int sd, .ref m7, .ref m8, .int cl, .int pc, .int op])), (m1, .inl (km1, 93, .inl nw)), (m7, .inl (km7, 1525, .inl vlv))]) [0, 1, 2] (by decide) rfl
            have hK9 := hK.sub (tys' := [(km1, .int), (km7, .int)]) [0, 1] rfl
            subst hAe
            exact W.vret hx hb hr (fun t ht hW => ⟨⟨(), rfl, trivial, vlv, (by assumption), (fun k hk => hL48_2 k (by omega)), by rw [ht]; exact hP9, va_K.moved hW.alike hK9, hD9⟩, hS.F ht⟩) hS.2.2 dX4_layHour_207
          · have c_52 := (not_congr (nI_leI (by omega : 61 < 2 ^ 31) (by omega : l_ < 2 ^ 31))).mp c_52
            refine lv_ldc (own := RX4) (v := (-500000000)) hx hb hown (hts (.constant RX4 67 (-500000000)) (List.mem_of_getElem? (i := 3) rfl)) dX4_layHour_55 ?_
            refine lv_istore (lv' := [(6, .int ((-500000000))), (0, .ref m0), (1, .int (nI h)), (2, .int (mp_po nw pc op (nI h))), (3, .int (nI up)), (4, .int (nI dw)), (5, .int (nI l_))]) hx hb dX4_layHour_57 hl (by decide) rfl (fun ls hl => ?_)
            refine lv_iload hx hb dX4_layHour_59 (lv_at hl 6 rfl) ?_
            refine lv_iload hx hb dX4_layHour_61 (lv_at hl 5 rfl) ?_
            refine lv_isub hx hb dX4_layHour_63 ?_
            have J76 : ∀ (le : Nat) (H : Heap) (locs : List Loc) (ls : Array Slot), le ≤ 60 → l_ ≤ le + dw → va_P (dC, dI) vwCl [(m0, .inr (4, [.ref m1, .ref m2, .int (nI bk), .ref m3, .ref m4, .ref m5, .ref m6, .int sd, .ref m7, .ref m8, .int cl, .int pc, .int op])), (m1, .inl (km1, 93, .inl nw)), (m7, .inl (km7, 1525, .inl vlv))] H → va_D A [(m0, .inr (4, [.ref m1, .ref m2, .int (nI bk), .ref m3, .ref m4, .ref m5, .ref m6, .int sd, .ref m7, .ref m8, .int cl, .int pc, .int op])), (m1, .inl (km1, 93, .inl nw)), (m7, .inl (km7, 1525, .inl vlv))] → va_S A s.heap H locs → lv_has ls 12 [(0, .ref m0), (1, .int (nI h)), (2, .int (mp_po nw pc op (nI h))), (3, .int (nI up)), (4, .int (nI dw)), (5, .int (nI l_)), (6, .int ((-500000000)))] → W p l e (headSpec wsX4_layHour { frames := 4, cells := 0, slots := 0, locals := 90 }).room s m args below meth c H locs 0 0 Q (F0 m 76 ls [.int (nI le)]) := by
              intro le H locs ls hJ76_0 hJ76_1 hP hD hS hl
              refine lv_istore (lv' := [(7, .int (nI le)), (0, .ref m0), (1, .int (nI h)), (2, .int (mp_po nw pc op (nI h))), (3, .int (nI up)), (4, .int (nI dw)), (5, .int (nI l_)), (6, .int ((-500000000)))]) hx hb dX4_layHour_76 hl (by decide) rfl (fun ls hl => ?_)
              refine lv_iload hx hb dX4_layHour_78 (lv_at hl 6 rfl) ?_
              refine lv_iload_n hx hb dX4_layHour_80 rfl (lv_at hl 4 rfl) ?_
              refine lv_iadd hx hb dX4_layHour_81 ?_
              refine tp_as (nI_add l_ up) ?_
              refine lv_aload_n hx hb dX4_layHour_82 rfl (lv_at hl 1 rfl) ?_
              refine va_get (D := (dC, dI)) (ci := 4) (v := .ref m1) (C := RX4) (T := TX4) (N := 13) hx hb hts inX4 hown hK hP 0 rfl rfl 0 (by decide) (hts (.fieldLink RX4 7 "StoreSlopesModel" "now" "[I") (List.mem_of_getElem? (i := 2) rfl)) (fun _ h9 => h9) rfl dX4_layHour_83 ?_
              refine lv_bipush (v := nI 68) hx hb dX4_layHour_86 (by decide) ?_
              refine lv_iload_n hx hb dX4_layHour_88 rfl (lv_at hl 2 rfl) ?_
              refine lv_iadd hx hb dX4_layHour_89 ?_
              refine tp_as (nI_add 68 h) ?_
              obtain ⟨j_2, hj_2, ej_2⟩ := (show okN nw by assumption).2.2.2.2.2 h (by omega)
              refine va_iald hx hb hK hP 1 0 rfl rfl (vp_in_nI (show 68 + h < 93 by omega) (by omega)) dX4_layHour_90 ?_
              refine tp_as (cl_as (by omega) ej_2) ?_
              have J110 : ∀ (mo : Nat) (H : Heap) (locs : List Loc) (ls : Array Slot), mo ≤ 60 → va_P (dC, dI) vwCl [(m0, .inr (4, [.ref m1, .ref m2, .int (nI bk), .ref m3, .ref m4, .ref m5, .ref m6, .int sd, .ref m7, .ref m8, .int cl, .int pc, .int op])), (m1, .inl (km1, 93, .inl nw)), (m7, .inl (km7, 1525, .inl vlv))] H → va_D A [(m0, .inr (4, [.ref m1, .ref m2, .int (nI bk), .ref m3, .ref m4, .ref m5, .ref m6, .int sd, .ref m7, .ref m8, .int cl, .int pc, .int op])), (m1, .inl (km1, 93, .inl nw)), (m7, .inl (km7, 1525, .inl vlv))] → va_S A s.heap H locs → lv_has ls 12 [(0, .ref m0), (1, .int (nI h)), (2, .int (mp_po nw pc op (nI h))), (3, .int (nI up)), (4, .int (nI dw)), (5, .int (nI l_)), (6, .int ((-500000000))), (7, .int (nI le))] → W p l e (headSpec wsX4_layHour { frames := 4, cells := 0, slots := 0, locals := 90 }).room s m args below meth c H locs 0 0 Q (F0 m 110 ls [.int (nI mo)]) := by
                intro mo H locs ls hJ110_0 hP hD hS hl
                refine lv_istore (lv' := [(8, .int (nI mo)), (0, .ref m0), (1, .int (nI h)), (2, .int (mp_po nw pc op (nI h))), (3, .int (nI up)), (4, .int (nI dw)), (5, .int (nI l_)), (6, .int ((-500000000))), (7, .int (nI le))]) hx hb dX4_layHour_110 hl (by decide) rfl (fun ls hl => ?_)
                refine lv_iload hx hb dX4_layHour_112 (lv_at hl 8 rfl) ?_
                refine lv_istore (lv' := [(9, .int (nI le)), (8, .int (nI mo)), (0, .ref m0), (1, .int (nI h)), (2, .int (mp_po nw pc op (nI h))), (3, .int (nI up)), (4, .int (nI dw)), (5, .int (nI l_)), (6, .int ((-500000000))), (7, .int (nI le))]) hx hb dX4_layHour_114 hl (by decide) rfl (fun ls hl => ?_)
                have L116 : ∀ (n : Nat) (m_ : Nat) (be : Int32) (H : Heap) (locs : List Loc) (ls : Array Slot), m_ ≤ 61 → le ≤ m_ → beOK nw (mp_po nw pc op (nI h)) vlv h l_ dw be → 61 - m_ < n → va_P (dC, dI) vwCl [(m0, .inr (4, [.ref m1, .ref m2, .int (nI bk), .ref m3, .ref m4, .ref m5, .ref m6, .int sd, .ref m7, .ref m8, .int cl, .int pc, .int op])), (m1, .inl (km1, 93, .inl nw)), (m7, .inl (km7, 1525, .inl vlv))] H → va_D A [(m0, .inr (4, [.ref m1, .ref m2, .int (nI bk), .ref m3, .ref m4, .ref m5, .ref m6, .int sd, .ref m7, .ref m8, .int cl, .int pc, .int op])), (m1, .inl (km1, 93, .inl nw)), (m7, .inl (km7, 1525, .inl vlv))] → va_S A s.heap H locs → lv_has ls 12 [(0, .ref m0), (1, .int (nI h)), (2, .int (mp_po nw pc op (nI h))), (3, .int (nI up)), (4, .int (nI dw)), (5, .int (nI l_)), (6, .int be), (8, .int (nI mo)), (9, .int (nI m_))] → W p l e (headSpec wsX4_layHour { frames := 4, cells := 0, slots := 0, locals := 90 }).room s m args below meth c H locs 0 0 Q (F0 m 116 ls []) := by
                  intro n
                  induction n with
                  | zero => intro m_ be H locs ls hL116_0 hL116_1 hL116_2 hn; exact absurd hn (Nat.not_lt_zero _)
                  | succ n ih116 =>
                    intro m_ be H locs ls hL116_0 hL116_1 hL116_2 hn hP hD hS hl
                    refine lv_iload hx hb dX4_layHour_116 (lv_at hl 8 rfl) ?_
                    refine lv_iload hx hb dX4_layHour_118 (lv_at hl 7 rfl) ?_
                    refine lv_icmp_gt (tgt := 187) hx hb dX4_layHour_120 (by decide) (fun c_120 => ?_) (fun c_120 => ?_)
                    · have c_120 := (nI_ltI (by omega : mo < 2 ^ 31) (by omega : m_ < 2 ^ 31)).mp c_120
                      refine lv_aload_n hx hb dX4_layHour_187 rfl (lv_at hl 0 rfl) ?_
                      refine va_get (D := (dC, dI)) (ci := 4) (v := .ref m7) (C := RX4) (T := TX4) (N := 13) hx hb hts inX4 hown hK hP 0 rfl rfl 8 (by decide) (hts (.fieldLink RX4 29 "StoreSlopesModel" "value" "[I") (List.mem_of_getElem? (i := 4) rfl)) (fun _ h9 => h9) rfl dX4_layHour_188 ?_
                      refine lv_bipush (v := nI 61) hx hb dX4_layHour_191 (by decide) ?_
                      refine lv_iload_n hx hb dX4_layHour_193 rfl (lv_at hl 1 rfl) ?_
                      refine lv_imul hx hb dX4_layHour_194 ?_
                      refine tp_as (pk_mul 61 h) ?_
                      refine lv_iload hx hb dX4_layHour_195 (lv_at hl 5 rfl) ?_
                      refine lv_iadd hx hb dX4_layHour_197 ?_
                      refine tp_as (nI_add (61 * h) l_) ?_
                      refine lv_iload hx hb dX4_layHour_198 (lv_at hl 6 rfl) ?_
                      refine va_iast hx hb hK hP hD hS 2 1 rfl rfl (vp_in_nI (show 61 * h + l_ < 1525 by omega) (by omega)) dX4_layHour_200 (fun H locs hP hD hS => ?_)
                      have hP : va_P (dC, dI) vwCl [(m0, .inr (4, [.ref m1, .ref m2, .int (nI bk), .ref m3, .ref m4, .ref m5, .ref m6, .int sd, .ref m7, .ref m8, .int cl, .int pc, .int op])), (m1, .inl (km1, 93, .inl nw)), (m7, .inl (km7, 1525, .inl (upd vlv (nI (61 * h + l_)).toNatClampNeg (be))))] H := hP
                      have hD : va_D A [(m0, .inr (4, [.ref m1, .ref m2, .int (nI bk), .ref m3, .ref m4, .ref m5, .ref m6, .int sd, .ref m7, .ref m8, .int cl, .int pc, .int op])), (m1, .inl (km1, 93, .inl nw)), (m7, .inl (km7, 1525, .inl (upd vlv (nI (61 * h + l_)).toNatClampNeg (be))))] := hD
                      generalize ef_3 : upd vlv (nI (61 * h + l_)).toNatClampNeg (be) = f_3 at hP hD
                      refine lv_iinc (v := nI (l_ + 1)) (lv' := [(5, .int (nI (l_ + 1))), (0, .ref m0), (1, .int (nI h)), (2, .int (mp_po nw pc op (nI h))), (3, .int (nI up)), (4, .int (nI dw)), (6, .int be), (8, .int (nI mo)), (9, .int (nI m_))]) hx hb dX4_layHour_201 hl (k := 5) rfl (inc_n l_ 1) (by decide) rfl (fun ls hl => ?_)
                      refine lv_goto (tgt := 48) hx hb dX4_layHour_204 (by decide) ?_
                      exact ih48 (l_ + 1) f_3 _ _ _ (by first | assumption | omega) (lay_out (by assumption) (by assumption) (by omega) (by omega)) (lay_row (by assumption) (dwe ▸ hL116_2) (by assumption) (by omega) (by omega)) (by omega) hP hD hS (lv_sub hl [1, 2, 3, 4, 5, 0] rfl)
                    · have c_120 := (not_congr (nI_ltI (by omega : mo < 2 ^ 31) (by omega : m_ < 2 ^ 31))).mp c_120
                      refine lv_aload_n hx hb dX4_layHour_123 rfl (lv_at hl 0 rfl) ?_
                      refine va_get (D := (dC, dI)) (ci := 4) (v := .ref m7) (C := RX4) (T := TX4) (N := 13) hx hb hts inX4 hown hK hP 0 rfl rfl 8 (by decide) (hts (.fieldLink RX4 29 "StoreSlopesModel" "value" "[I") (List.mem_of_getElem? (i := 4) rfl)) (fun _ h9 => h9) rfl dX4_layHour_124 ?_
                      refine lv_bipush (v := nI 61) hx hb dX4_layHour_127 (by decide) ?_
                      refine lv_iload_n hx hb dX4_layHour_129 rfl (lv_at hl 1 rfl) ?_
                      refine lv_iconst (v := nI 1) hx hb dX4_layHour_130 (by decide) ?_
                      refine lv_iadd hx hb dX4_layHour_131 ?_
                      refine tp_as (nI_add h 1) ?_
                      refine lv_imul hx hb dX4_layHour_132 ?_
                      refine tp_as (pk_mul 61 (h + 1)) ?_
                      refine lv_iload hx hb dX4_layHour_133 (lv_at hl 8 rfl) ?_
                      refine lv_iadd hx hb dX4_layHour_135 ?_
                      refine tp_as (nI_add (61 * (h + 1)) m_) ?_
                      refine va_iald hx hb hK hP 2 1 rfl rfl (vp_in_nI (show (61 * (h + 1)) + m_ < 1525 by omega) (by omega)) dX4_layHour_136 ?_
                      refine tp_as (cl_at (by omega)) ?_
                      refine lv_istore (lv' := [(10, .int (vlv ((61 * (h + 1)) + m_))), (0, .ref m0), (1, .int (nI h)), (2, .int (mp_po nw pc op (nI h))), (3, .int (nI up)), (4, .int (nI dw)), (5, .int (nI l_)), (6, .int be), (8, .int (nI mo)), (9, .int (nI m_))]) hx hb dX4_layHour_137 hl (by decide) rfl (fun ls hl => ?_)
                      refine lv_iload hx hb dX4_layHour_139 (lv_at hl 0 rfl) ?_
                      refine lv_ldc (own := RX4) (v := (-500000000)) hx hb hown (hts (.constant RX4 67 (-500000000)) (List.mem_of_getElem? (i := 3) rfl)) dX4_layHour_141 ?_
                      have J163 : ∀ (byv : Int32) (H : Heap) (locs : List Loc) (ls : Array Slot), byOK nw (mp_po nw pc op (nI h)) vlv h l_ m_ byv → va_P (dC, dI) vwCl [(m0, .inr (4, [.ref m1, .ref m2, .int (nI bk), .ref m3, .ref m4, .ref m5, .ref m6, .int sd, .ref m7, .ref m8, .int cl, .int pc, .int op])), (m1, .inl (km1, 93, .inl nw)), (m7, .inl (km7, 1525, .inl vlv))] H → va_D A [(m0, .inr (4, [.ref m1, .ref m2, .int (nI bk), .ref m3, .ref m4, .ref m5, .ref m6, .int sd, .ref m7, .ref m8, .int cl, .int pc, .int op])), (m1, .inl (km1, 93, .inl nw)), (m7, .inl (km7, 1525, .inl vlv))] → va_S A s.heap H locs → lv_has ls 12 [(0, .ref m0), (1, .int (nI h)), (2, .int (mp_po nw pc op (nI h))), (3, .int (nI up)), (4, .int (nI dw)), (5, .int (nI l_)), (6, .int be), (8, .int (nI mo)), (9, .int (nI m_))] → W p l e (headSpec wsX4_layHour { frames := 4, cells := 0, slots := 0, locals := 90 }).room s m args below meth c H locs 0 0 Q (F0 m 163 ls [.int byv]) := by
                        intro byv H locs ls hJ163_0 hP hD hS hl
                        refine lv_istore (lv' := [(11, .int byv), (0, .ref m0), (1, .int (nI h)), (2, .int (mp_po nw pc op (nI h))), (3, .int (nI up)), (4, .int (nI dw)), (5, .int (nI l_)), (6, .int be), (8, .int (nI mo)), (9, .int (nI m_))]) hx hb dX4_layHour_163 hl (by decide) rfl (fun ls hl => ?_)
                        refine lv_iload hx hb dX4_layHour_165 (lv_at hl 0 rfl) ?_
                        refine lv_iload hx hb dX4_layHour_167 (lv_at hl 7 rfl) ?_
                        refine lv_icmp_le (tgt := 177) hx hb dX4_layHour_169 (by decide) (fun c_169 => ?_) (fun c_169 => ?_)
                        · refine lv_iload hx hb dX4_layHour_177 (lv_at hl 7 rfl) ?_
                          refine lv_istore (lv' := [(6, .int be), (11, .int byv), (0, .ref m0), (1, .int (nI h)), (2, .int (mp_po nw pc op (nI h))), (3, .int (nI up)), (4, .int (nI dw)), (5, .int (nI l_)), (8, .int (nI mo)), (9, .int (nI m_))]) hx hb dX4_layHour_179 hl (by decide) rfl (fun ls hl => ?_)
                          refine lv_iinc (v := nI (m_ + 1)) (lv' := [(9, .int (nI (m_ + 1))), (6, .int be), (11, .int byv), (0, .ref m0), (1, .int (nI h)), (2, .int (mp_po nw pc op (nI h))), (3, .int (nI up)), (4, .int (nI dw)), (5, .int (nI l_)), (8, .int (nI mo))]) hx hb dX4_layHour_181 hl (k := 9) rfl (inc_n m_ 1) (by decide) rfl (fun ls hl => ?_)
                          refine lv_goto (tgt := 116) hx hb dX4_layHour_184 (by decide) ?_
                          exact ih116 (m_ + 1) be _ _ _ (by first | assumption | omega) (by first | assumption | omega) (by first | assumption | exact be_step (by assumption) (by assumption) (by omega) (by omega) c_169) (by omega) hP hD hS (lv_sub hl [3, 4, 5, 6, 7, 8, 1, 9, 0] rfl)
                        · refine lv_iload hx hb dX4_layHour_172 (lv_at hl 0 rfl) ?_
                          refine lv_goto (tgt := 179) hx hb dX4_layHour_174 (by decide) ?_
                          refine lv_istore (lv' := [(6, .int byv), (11, .int byv), (0, .ref m0), (1, .int (nI h)), (2, .int (mp_po nw pc op (nI h))), (3, .int (nI up)), (4, .int (nI dw)), (5, .int (nI l_)), (8, .int (nI mo)), (9, .int (nI m_))]) hx hb dX4_layHour_179 hl (by decide) rfl (fun ls hl => ?_)
                          refine lv_iinc (v := nI (m_ + 1)) (lv' := [(9, .int (nI (m_ + 1))), (6, .int byv), (11, .int byv), (0, .ref m0), (1, .int (nI h)), (2, .int (mp_po nw pc op (nI h))), (3, .int (nI up)), (4, .int (nI dw)), (5, .int (nI l_)), (8, .int (nI mo))]) hx hb dX4_layHour_181 hl (k := 9) rfl (inc_n m_ 1) (by decide) rfl (fun ls hl => ?_)
                          refine lv_goto (tgt := 116) hx hb dX4_layHour_184 (by decide) ?_
                          exact ih116 (m_ + 1) byv _ _ _ (by first | assumption | omega) (by first | assumption | omega) (by first | assumption | exact be_step (by assumption) (by assumption) (by omega) (by omega) c_169) (by omega) hP hD hS (lv_sub hl [3, 4, 5, 6, 7, 8, 1, 9, 0] rfl)
                      refine lv_icmp_ne (tgt := 151) hx hb dX4_layHour_143 (by decide) (fun c_143 => ?_) (fun c_143 => ?_)
                      · refine lv_iload hx hb dX4_layHour_151 (lv_at hl 0 rfl) ?_
                        refine lv_aload_n hx hb dX4_layHour_153 rfl (lv_at hl 1 rfl) ?_
                        refine lv_iload_n hx hb dX4_layHour_154 rfl (lv_at hl 3 rfl) ?_
                        refine lv_iload hx hb dX4_layHour_155 (lv_at hl 6 rfl) ?_
                        refine lv_iload hx hb dX4_layHour_157 (lv_at hl 9 rfl) ?_
                        have hPc := hP.sub (ws' := [(m0, .inr (4, [.ref m1, .ref m2, .int (nI bk), .ref m3, .ref m4, .ref m5, .ref m6, .int sd, .ref m7, .ref m8, .int cl, .int pc, .int op])), (m1, .inl (km1, 93, .inl nw))]) [0, 1] rfl
                        have hKc := hK.sub (tys' := [(km1, .int)]) [0] rfl
                        refine va_calli (va_runV (As := [.int (mp_po nw pc op (nI h)), .int (nI l_), .int (nI m_)]) (rest := [.int (vlv ((61 * (h + 1)) + m_))]) ⟨hx, hb, hml, hown, hts⟩ (c_X4_brings l dC dI m0 m1 m2 m3 m4 m5 m6 m7 m8 km1 bk sd cl pc op nw (mp_po nw pc op (nI h)) (nI l_) (nI m_) (by first | assumption | omega) (by first | assumption | omega) ) (cwV 3 hts gX4_layHour_X4_brings rfl rfl rfl (by decide +kernel) ⟨Nat.le_of_ble_eq_true rfl, Nat.le_of_ble_eq_true rfl⟩) ⟨fun a U g mk q => by obtain ⟨q0, qP, qK⟩ := q; exact ⟨q0, qP, va_K.moved (u := U) (U := U.calling g mk a) (Vm.Alike.refl U.vm) qK⟩, va_recv hKc hPc (ci := 4) (q0 := 0) rfl rfl, fun U hU hW => ⟨rfl, by rw [hU]; exact hPc, va_K.moved hW.alike hKc⟩⟩ rfl rfl hl.1 rfl (lv_room (Nat.le_of_ble_eq_true rfl)) dX4_layHour_159 ⟨Nat.le_of_ble_eq_true rfl, Nat.le_of_ble_eq_true rfl⟩) hS (fun q _ h => h.elim) (fun q h => h.elim) (fun r_4 u9 t9 H1 locs ht hvm hw hB hz1 hk1 hS => ?_)
                        refine W.widen (k := 0) (n := 0) (Nat.le_of_ble_eq_true rfl) (Nat.le_of_ble_eq_true rfl) ?_
                        have hP := hP.kept (H1 := H1) (fun k q hk => hk1 q.1 (hP k q hk).lt (fun h => h))
                        clear hz1 hk1 hB ht hvm t9
                        generalize H1 = H at hP hS ⊢
                        have hP : va_P (dC, dI) vwCl [(m0, .inr (4, [.ref m1, .ref m2, .int (nI bk), .ref m3, .ref m4, .ref m5, .ref m6, .int sd, .ref m7, .ref m8, .int cl, .int pc, .int op])), (m1, .inl (km1, 93, .inl nw)), (m7, .inl (km7, 1525, .inl vlv))] H := hP
                        subst hw
                        refine lv_iadd hx hb dX4_layHour_162 ?_
                        exact J163 ((vlv ((61 * (h + 1)) + m_)) + (mp_br nw (mp_po nw pc op (nI h)) (nI l_) (nI m_))) _ _ _ (by first | exact Or.inl rfl | exact Or.inr ⟨c_143, rfl⟩) hP hD hS (lv_sub hl [1, 2, 3, 4, 5, 6, 7, 8, 9] rfl)
                      · refine lv_ldc (own := RX4) (v := (-500000000)) hx hb hown (hts (.constant RX4 67 (-500000000)) (List.mem_of_getElem? (i := 3) rfl)) dX4_layHour_146 ?_
                        refine lv_goto (tgt := 163) hx hb dX4_layHour_148 (by decide) ?_
                        exact J163 ((-500000000)) _ _ _ (by first | exact Or.inl rfl | exact Or.inr ⟨c_143, rfl⟩) hP hD hS (lv_sub hl [1, 2, 3, 4, 5, 6, 7, 8, 9] rfl)
                exact L116 (61 - le + 1) le ((-500000000)) _ _ _ (by first | assumption | omega) (by first | assumption | omega) be_0 (Nat.lt_succ_self _) hP hD hS (lv_sub hl [2, 3, 4, 5, 6, 7, 8, 1, 0] rfl)
              refine lv_icmp_le (tgt := 106) hx hb dX4_layHour_91 (by decide) (fun c_91 => ?_) (fun c_91 => ?_)
              · have c_91 := (nI_leI (by omega : l_ + up < 2 ^ 31) (by omega : j_2 < 2 ^ 31)).mp c_91
                refine lv_iload hx hb dX4_layHour_106 (lv_at hl 6 rfl) ?_
                refine lv_iload_n hx hb dX4_layHour_108 rfl (lv_at hl 4 rfl) ?_
                refine lv_iadd hx hb dX4_layHour_109 ?_
                refine tp_as (nI_add l_ up) ?_
                exact J110 (l_ + up) _ _ _ (by first | assumption | omega) hP hD hS (lv_sub hl [1, 2, 3, 4, 5, 6, 7, 0] rfl)
              · have c_91 := (not_congr (nI_leI (by omega : l_ + up < 2 ^ 31) (by omega : j_2 < 2 ^ 31))).mp c_91
                refine lv_aload_n hx hb dX4_layHour_94 rfl (lv_at hl 1 rfl) ?_
                refine va_get (D := (dC, dI)) (ci := 4) (v := .ref m1) (C := RX4) (T := TX4) (N := 13) hx hb hts inX4 hown hK hP 0 rfl rfl 0 (by decide) (hts (.fieldLink RX4 7 "StoreSlopesModel" "now" "[I") (List.mem_of_getElem? (i := 2) rfl)) (fun _ h9 => h9) rfl dX4_layHour_95 ?_
                refine lv_bipush (v := nI 68) hx hb dX4_layHour_98 (by decide) ?_
                refine lv_iload_n hx hb dX4_layHour_100 rfl (lv_at hl 2 rfl) ?_
                refine lv_iadd hx hb dX4_layHour_101 ?_
                refine tp_as (nI_add 68 h) ?_
                refine va_iald hx hb hK hP 1 0 rfl rfl (vp_in_nI (show 68 + h < 93 by omega) (by omega)) dX4_layHour_102 ?_
                refine tp_as (cl_as (by omega) ej_2) ?_
                refine lv_goto (tgt := 110) hx hb dX4_layHour_103 (by decide) ?_
                exact J110 j_2 _ _ _ (by first | assumption | omega) hP hD hS (lv_sub hl [1, 2, 3, 4, 5, 6, 7, 0] rfl)
            refine lv_if_ge (tgt := 71) hx hb dX4_layHour_64 (by decide) (fun c_64 => ?_) (fun c_64 => ?_)
            · have c_64 := (sb_ge (a := l_) (b := dw) (by omega) (by omega)).mp c_64
              refine lv_iload hx hb dX4_layHour_71 (lv_at hl 6 rfl) ?_
              refine lv_iload hx hb dX4_layHour_73 (lv_at hl 5 rfl) ?_
              refine lv_isub hx hb dX4_layHour_75 ?_
              refine tp_as (pk_sub (a := l_) (b := dw) (by omega)) ?_
              exact J76 (l_ - dw) _ _ _ (by first | assumption | omega) (by first | assumption | omega) hP hD hS (lv_sub hl [1, 2, 3, 4, 5, 6, 0] rfl)
            · have c_64 := (not_congr (sb_ge (a := l_) (b := dw) (by omega) (by omega))).mp c_64
              refine lv_iconst (v := nI 0) hx hb dX4_layHour_67 (by decide) ?_
              refine lv_goto (tgt := 76) hx hb dX4_layHour_68 (by decide) ?_
              exact J76 0 _ _ _ (by first | assumption | omega) (by first | assumption | omega) hP hD hS (lv_sub hl [1, 2, 3, 4, 5, 6, 0] rfl)
      exact L48 (61 - 0 + 1) 0 vl _ _ _ (by first | assumption | omega) (fun _ _ => rfl) (fun k hk => absurd hk (Nat.not_lt_zero _)) (Nat.lt_succ_self _) hP hD hS (lv_sub hl [2, 3, 4, 5, 1, 0] rfl)
    refine lv_icmp_ne (tgt := 37) hx hb dX4_layHour_30 (by decide) (fun c_30 => ?_) (fun c_30 => ?_)
    · refine lv_aload_n hx hb dX4_layHour_37 rfl (lv_at hl 1 rfl) ?_
      refine va_get (D := (dC, dI)) (ci := 4) (v := .ref m1) (C := RX4) (T := TX4) (N := 13) hx hb hts inX4 hown hK hP 0 rfl rfl 0 (by decide) (hts (.fieldLink RX4 7 "StoreSlopesModel" "now" "[I") (List.mem_of_getElem? (i := 2) rfl)) (fun _ h9 => h9) rfl dX4_layHour_38 ?_
      refine lv_iconst (v := nI 3) hx hb dX4_layHour_41 (by decide) ?_
      refine va_iald hx hb hK hP 1 0 rfl rfl (vp_in_nI (show 3 < 93 by omega) (by omega)) dX4_layHour_42 ?_
      refine tp_as (cl_as (by omega) egv) ?_
      exact J43 gv _ _ _ (by first | assumption | omega) (by first | exact (dn_1 c_30).symm | exact (dn_2 c_30 egv (by omega)).symm) hP hD hS (lv_sub hl [1, 2, 3, 0] rfl)
    · refine lv_iconst (v := nI 0) hx hb dX4_layHour_33 (by decide) ?_
      refine lv_goto (tgt := 43) hx hb dX4_layHour_34 (by decide) ?_
      exact J43 0 _ _ _ (by first | assumption | omega) (by first | exact (dn_1 c_30).symm | exact (dn_2 c_30 egv (by omega)).symm) hP hD hS (lv_sub hl [1, 2, 3, 0] rfl)
  refine lv_icmp_ne (tgt := 18) hx hb dX4_layHour_11 (by decide) (fun c_11 => ?_) (fun c_11 => ?_)
  · refine lv_aload_n hx hb dX4_layHour_18 rfl (lv_at hl 1 rfl) ?_
    refine va_get (D := (dC, dI)) (ci := 4) (v := .ref m1) (C := RX4) (T := TX4) (N := 13) hx hb hts inX4 hown hK hP 0 rfl rfl 0 (by decide) (hts (.fieldLink RX4 7 "StoreSlopesModel" "now" "[I") (List.mem_of_getElem? (i := 2) rfl)) (fun _ h9 => h9) rfl dX4_layHour_19 ?_
    refine lv_iconst (v := nI 2) hx hb dX4_layHour_22 (by decide) ?_
    refine va_iald hx hb hK hP 1 0 rfl rfl (vp_in_nI (show 2 < 93 by omega) (by omega)) dX4_layHour_23 ?_
    refine tp_as (cl_as (by omega) etk) ?_
    exact J24 tk _ _ _ (by first | assumption | omega) hP hD hS (lv_sub hl [1, 2, 0] rfl)
  · refine lv_iconst (v := nI 0) hx hb dX4_layHour_14 (by decide) ?_
    refine lv_goto (tgt := 24) hx hb dX4_layHour_15 (by decide) ?_
    exact J24 0 _ _ _ (by first | assumption | omega) hP hD hS (lv_sub hl [1, 2, 0] rfl)
set_option maxHeartbeats 4000000 in
set_option maxRecDepth 100000 in
theorem c_X4_lay (l : Launch) (dC : Nat → ClassId) (dI : Nat → Nat → Nat) (m0 m1 m7 m2 m3 m4 m5 m6 m8 : Nat) (km1 km7 : ClassId) (sz : Nat) (bk : Nat) (sd : Int32) (cl : Int32) (pc : Int32) (op : Int32) (nw : Nat → Int32) (vl : Nat → Int32) (i0 : bk ≤ 40) (i1 : okN nw) : Met l yX4_lay wsX4_lay ({ frames := 5, cells := 0, slots := 0, locals := 121 }) (va_Pc [.ref m0] (fun U => U.heap.size = sz ∧ va_P (dC, dI) vwCl [(m0, .inr (4, [.ref m1, .ref m2, .int (nI bk), .ref m3, .ref m4, .ref m5, .ref m6, .int sd, .ref m7, .ref m8, .int cl, .int pc, .int op])), (m1, .inl (km1, 93, .inl nw)), (m7, .inl (km7, 1525, .inl vl))] U.heap ∧ va_K (dC, dI) vwCl [(km1, .int), (km7, .int)] U ∧ va_D (fun _ => True) [(m0, .inr (4, [.ref m1, .ref m2, .int (nI bk), .ref m3, .ref m4, .ref m5, .ref m6, .int sd, .ref m7, .ref m8, .int cl, .int pc, .int op])), (m1, .inl (km1, 93, .inl nw)), (m7, .inl (km7, 1525, .inl vl))])) (va_Qv (fun _ : Unit => True) (fun _ t => ∃ (vl' : Nat → Int32), layAll nw cl pc op vl' 0 ∧ va_P (dC, dI) vwCl [(m0, .inr (4, [.ref m1, .ref m2, .int (nI bk), .ref m3, .ref m4, .ref m5, .ref m6, .int sd, .ref m7, .ref m8, .int cl, .int pc, .int op])), (m1, .inl (km1, 93, .inl nw)), (m7, .inl (km7, 1525, .inl vl'))] t.heap ∧ va_K (dC, dI) vwCl [(km1, .int), (km7, .int)] t ∧ va_D (va_A [(m0, .inr (4, [.ref m1, .ref m2, .int (nI bk), .ref m3, .ref m4, .ref m5, .ref m6, .int sd, .ref m7, .ref m8, .int cl, .int pc, .int op])), (m1, .inl (km1, 93, .inl nw)), (m7, .inl (km7, 1525, .inl vl))] sz) [(m0, .inr (4, [.ref m1, .ref m2, .int (nI bk), .ref m3, .ref m4, .ref m5, .ref m6, .int sd, .ref m7, .ref m8, .int cl, .int pc, .int op])), (m1, .inl (km1, 93, .inl nw)), (m7, .inl (km7, 1525, .inl vl'))]) (va_A [(m0, .inr (4, [.ref m1, .ref m2, .int (nI bk), .ref m3, .ref m4, .ref m5, .ref m6, .int sd, .ref m7, .ref m8, .int cl, .int pc, .int op])), (m1, .inl (km1, 93, .inl nw)), (m7, .inl (km7, 1525, .inl vl))] sz)) 0 0 (va_A [(m0, .inr (4, [.ref m1, .ref m2, .int (nI bk), .ref m3, .ref m4, .ref m5, .ref m6, .int sd, .ref m7, .ref m8, .int cl, .int pc, .int op])), (m1, .inl (km1, 93, .inl nw)), (m7, .inl (km7, 1525, .inl vl))] sz) := by
  refine Met.ofW (cc := cX4_lay) (maxL := 2) (ret := none) (by decide) rfl ?_
  intro p e s m args below meth c s₁ B hml hv
  obtain ⟨rfl, hsz, hP, hK, hD0⟩ := hv
  have hx := B.exec
  have hb := B.bytes
  have hr := B.returns
  have hts := atoms_spec (ws := wsX4_lay) B.pre
  have hown : s.vm.findClass RX4 = some m.cls := findClass_of_methodNamed B.named
  have hlocks := B.notSynchronized
  have inX4 : ∀ w ∈ wsX40, w ∈ wsX4_lay := fun _ h => List.mem_cons_of_mem _ (List.mem_append_right _ h)
  subst hsz
  have hD := hD0.self (sz := s.heap.size)
  generalize hAe : va_A [(m0, .inr (4, [.ref m1, .ref m2, .int (nI bk), .ref m3, .ref m4, .ref m5, .ref m6, .int sd, .ref m7, .ref m8, .int cl, .int pc, .int op])), (m1, .inl (km1, 93, .inl nw)), (m7, .inl (km7, 1525, .inl vl))] s.heap.size = A at hD ⊢
  have hA : ∀ q : Nat, s.heap.size ≤ q → A q := fun q h => by rw [← hAe]; exact Or.inr h
  have hS : va_S A s.heap s.heap [] := va_S.rf
  have hl := lv_entry ([.ref m0]) (n := 2) (Nat.le_of_ble_eq_true rfl)
  rw [lg_entry_eq]
  generalize (lg_sl ([.ref m0]) ++ List.replicate (2 - (lg_sl ([.ref m0])).length) Slot.unset).toArray = ls at hl ⊢
  generalize hQe : MQ below _ _ s 0 0 _ = Q
  generalize ([.ref m0] : List Value).toArray = args at hts hQe ⊢
  have hl : lv_has ls 2 [(0, .ref m0)] := hl
  refine lv_iconst (v := nI 0) hx hb dX4_lay_0 (by decide) ?_
  refine lv_istore_n (lv' := [(1, .int (nI 0)), (0, .ref m0)]) hx hb dX4_lay_1 rfl hl (by decide) rfl (fun ls hl => ?_)
  have L2 : ∀ (n : Nat) (x : Nat) (vlv : Nat → Int32) (H : Heap) (locs : List Loc) (ls : Array Slot), x ≤ 61 → 61 - x < n → va_P (dC, dI) vwCl [(m0, .inr (4, [.ref m1, .ref m2, .int (nI bk), .ref m3, .ref m4, .ref m5, .ref m6, .int sd, .ref m7, .ref m8, .int cl, .int pc, .int op])), (m1, .inl (km1, 93, .inl nw)), (m7, .inl (km7, 1525, .inl vlv))] H → va_D A [(m0, .inr (4, [.ref m1, .ref m2, .int (nI bk), .ref m3, .ref m4, .ref m5, .ref m6, .int sd, .ref m7, .ref m8, .int cl, .int pc, .int op])), (m1, .inl (km1, 93, .inl nw)), (m7, .inl (km7, 1525, .inl vlv))] → va_S A s.heap H locs → lv_has ls 2 [(0, .ref m0), (1, .int (nI x))] → W p l e (headSpec wsX4_lay { frames := 5, cells := 0, slots := 0, locals := 121 }).room s m args below meth c H locs 0 0 Q (F0 m 2 ls []) := by
    intro n
    induction n with
    | zero => intro x vlv H locs ls hL2_0 hn; exact absurd hn (Nat.not_lt_zero _)
    | succ n ih2 =>
      intro x vlv H locs ls hL2_0 hn hP hD hS hl
      refine lv_iload_n hx hb dX4_lay_2 rfl (lv_at hl 1 rfl) ?_
      refine lv_bipush (v := nI 61) hx hb dX4_lay_3 (by decide) ?_
      refine lv_icmp_ge (tgt := 32) hx hb dX4_lay_5 (by decide) (fun c_5 => ?_) (fun c_5 => ?_)
      · have c_5 := (nI_leI (by omega : 61 < 2 ^ 31) (by omega : x < 2 ^ 31)).mp c_5
        refine lv_bipush (v := nI 23) hx hb dX4_lay_32 (by decide) ?_
        refine lv_istore_n (lv' := [(1, .int (nI 23)), (0, .ref m0)]) hx hb dX4_lay_34 rfl hl (by decide) rfl (fun ls hl => ?_)
        have hl : lv_has ls 2 [(1, .int (dn (23 + 1))), (0, .ref m0)] := by rw [dn_s]; exact hl
        have L35 : ∀ (n : Nat) (t : Nat) (vlw : Nat → Int32) (H : Heap) (locs : List Loc) (ls : Array Slot), t ≤ 24 → layAll nw cl pc op vlw t → t < n → va_P (dC, dI) vwCl [(m0, .inr (4, [.ref m1, .ref m2, .int (nI bk), .ref m3, .ref m4, .ref m5, .ref m6, .int sd, .ref m7, .ref m8, .int cl, .int pc, .int op])), (m1, .inl (km1, 93, .inl nw)), (m7, .inl (km7, 1525, .inl vlw))] H → va_D A [(m0, .inr (4, [.ref m1, .ref m2, .int (nI bk), .ref m3, .ref m4, .ref m5, .ref m6, .int sd, .ref m7, .ref m8, .int cl, .int pc, .int op])), (m1, .inl (km1, 93, .inl nw)), (m7, .inl (km7, 1525, .inl vlw))] → va_S A s.heap H locs → lv_has ls 2 [(0, .ref m0), (1, .int (dn t))] → W p l e (headSpec wsX4_lay { frames := 5, cells := 0, slots := 0, locals := 121 }).room s m args below meth c H locs 0 0 Q (F0 m 35 ls []) := by
          intro n
          induction n with
          | zero => intro t vlw H locs ls hL35_0 hL35_1 hn; exact absurd hn (Nat.not_lt_zero _)
          | succ n ih35 =>
            intro t vlw H locs ls hL35_0 hL35_1 hn hP hD hS hl
            refine lv_iload_n hx hb dX4_lay_35 rfl (lv_at hl 1 rfl) ?_
            refine lv_if_lt (tgt := 50) hx hb dX4_lay_36 (by decide) (fun c_36 => ?_) (fun c_36 => ?_)
            · subst hQe
              have hall0 : layAll nw cl pc op vlw 0 := by rw [← dn_z c_36 (by omega)]; exact hL35_1
              have hP9 := hP.sub (ws' := [(m0, .inr (4, [.ref m1, .ref m2, .int (nI bk), .ref m3, .ref m4, .ref m5, .ref m6, .int sd, .ref m7, .ref m8, .int cl, .int pc, .int op])), (m1, .inl (km1, 93, .inl nw)), (m7, .inl (km7, 1525, .inl vlw))]) [0, 1, 2] rfl
              have hD9 := hD.sub (ws' := [(m0, .inr (4, [.ref m1, .ref m2, .int (nI bk), .ref m3, .ref m4, .ref m5, .ref m6, .int sd, .ref m7, .ref m8, .int cl, .int pc, .int op])), (m1, .inl (km1, 93, .inl nw)), (m7, .inl (km7, 1525, .inl vlw))]) [0, 1, 2] (by decide) rfl
              have hK9 := hK.sub (tys' := [(km1, .int), (km7, .int)]) [0, 1] rfl
              subst hAe
              exact W.vret hx hb hr (fun t ht hW => ⟨⟨(), rfl, trivial, vlw, hall0, by rw [ht]; exact hP9, va_K.moved hW.alike hK9, hD9⟩, hS.F ht⟩) hS.2.2 dX4_lay_50
            · obtain ⟨k_1, rfl⟩ := dn_pos c_36
              rw [dn_s] at hl
              refine lv_aload_n hx hb dX4_lay_39 rfl (lv_at hl 0 rfl) ?_
              refine lv_iload_n hx hb dX4_lay_40 rfl (lv_at hl 1 rfl) ?_
              have hPc := hP.sub (ws' := [(m0, .inr (4, [.ref m1, .ref m2, .int (nI bk), .ref m3, .ref m4, .ref m5, .ref m6, .int sd, .ref m7, .ref m8, .int cl, .int pc, .int op])), (m1, .inl (km1, 93, .inl nw)), (m7, .inl (km7, 1525, .inl vlw))]) [0, 1, 2] rfl
              have hKc := hK.sub (tys' := [(km1, .int), (km7, .int)]) [0, 1] rfl
              have hDc := hD.sub (ws' := [(m0, .inr (4, [.ref m1, .ref m2, .int (nI bk), .ref m3, .ref m4, .ref m5, .ref m6, .int sd, .ref m7, .ref m8, .int cl, .int pc, .int op])), (m1, .inl (km1, 93, .inl nw)), (m7, .inl (km7, 1525, .inl vlw))]) [0, 1, 2] (by decide) rfl
              have hFc := va_free (wc := [(m0, .inr (4, [.ref m1, .ref m2, .int (nI bk), .ref m3, .ref m4, .ref m5, .ref m6, .int sd, .ref m7, .ref m8, .int cl, .int pc, .int op])), (m1, .inl (km1, 93, .inl nw)), (m7, .inl (km7, 1525, .inl vlw))]) hD hS hA [0, 1, 2] rfl
              refine va_callv (va_runV (As := [.int (nI k_1)]) (rest := []) ⟨hx, hb, hml, hown, hts⟩ (c_X4_layHour l dC dI m0 m1 m7 m2 m3 m4 m5 m6 m8 km1 km7 H.size bk sd cl pc op nw vlw k_1 (by first | assumption | omega) (by first | assumption | omega) (by first | assumption | omega)) (cwV 1 hts gX4_lay_X4_layHour rfl rfl rfl (by decide +kernel) ⟨Nat.le_of_ble_eq_true rfl, Nat.le_of_ble_eq_true rfl⟩) ⟨fun a U g mk q => by obtain ⟨q0, q1, qP, qK, qD⟩ := q; exact ⟨q0, q1, qP, va_K.moved (u := U) (U := U.calling g mk a) (Vm.Alike.refl U.vm) qK, qD⟩, va_recv hKc hPc (ci := 4) (q0 := 0) rfl rfl, fun U hU hW => ⟨rfl, by rw [hU], by rw [hU]; exact hPc, va_K.moved hW.alike hKc, hDc.weaken (fun _ _ _ _ => trivial)⟩⟩ rfl rfl hl.1 rfl (lv_room (Nat.le_of_ble_eq_true rfl)) dX4_lay_41 ⟨Nat.le_of_ble_eq_true rfl, Nat.le_of_ble_eq_true rfl⟩) hS (fun q _ h => hFc q h) hFc (fun u9 t9 H1 locs ht hvm hw hB hz1 hk1 hS => ?_)
              refine W.widen (k := 0) (n := 0) (Nat.le_of_ble_eq_true rfl) (Nat.le_of_ble_eq_true rfl) ?_
              obtain ⟨⟩ := u9
              obtain ⟨vl_3, h_4, h_5, hP1, hK1, hD1⟩ := hB
              rw [ht] at hP1
              obtain ⟨hP, hD⟩ := va_join (wr := []) (w1 := [(m0, .inr (4, [.ref m1, .ref m2, .int (nI bk), .ref m3, .ref m4, .ref m5, .ref m6, .int sd, .ref m7, .ref m8, .int cl, .int pc, .int op])), (m1, .inl (km1, 93, .inl nw)), (m7, .inl (km7, 1525, .inl vl_3))]) hP hD [0, 1, 2] [] rfl rfl (by decide) (by decide) hk1 hFc hP1 hD1
              clear hPc hDc hKc hFc hz1 hk1 ht hvm hP1 hK1 hD1 hw t9
              generalize H1 = H at hP hS ⊢
              have hP := hP.sub (ws' := [(m0, .inr (4, [.ref m1, .ref m2, .int (nI bk), .ref m3, .ref m4, .ref m5, .ref m6, .int sd, .ref m7, .ref m8, .int cl, .int pc, .int op])), (m1, .inl (km1, 93, .inl nw)), (m7, .inl (km7, 1525, .inl vl_3))]) [0, 1, 2] rfl
              have hD := hD.sub (ws' := [(m0, .inr (4, [.ref m1, .ref m2, .int (nI bk), .ref m3, .ref m4, .ref m5, .ref m6, .int sd, .ref m7, .ref m8, .int cl, .int pc, .int op])), (m1, .inl (km1, 93, .inl nw)), (m7, .inl (km7, 1525, .inl vl_3))]) [0, 1, 2] (by decide) rfl
              have hdn := lay_down (by assumption) (by omega) h_4 h_5
              refine lv_iinc (v := dn k_1) (lv' := [(1, .int (dn k_1)), (0, .ref m0)]) hx hb dX4_lay_44 hl (k := 1) rfl rfl (by decide) rfl (fun ls hl => ?_)
              refine lv_goto (tgt := 35) hx hb dX4_lay_47 (by decide) ?_
              exact ih35 k_1 vl_3 _ _ _ (by first | assumption | omega) (by first | assumption | omega) (by omega) hP hD hS (lv_sub hl [1, 0] rfl)
        exact L35 ((23 + 1) + 1) (23 + 1) vlv _ _ _ (by first | assumption | omega) (fun h h1 h2 => by omega) (Nat.lt_succ_self _) hP hD hS (lv_sub hl [1, 0] rfl)
      · have c_5 := (not_congr (nI_leI (by omega : 61 < 2 ^ 31) (by omega : x < 2 ^ 31))).mp c_5
        refine lv_aload_n hx hb dX4_lay_8 rfl (lv_at hl 0 rfl) ?_
        refine va_get (D := (dC, dI)) (ci := 4) (v := .ref m7) (C := RX4) (T := TX4) (N := 13) hx hb hts inX4 hown hK hP 0 rfl rfl 8 (by decide) (hts (.fieldLink RX4 29 "StoreSlopesModel" "value" "[I") (List.mem_of_getElem? (i := 1) rfl)) (fun _ h9 => h9) rfl dX4_lay_9 ?_
        refine lv_sipush (v := nI 1464) hx hb dX4_lay_12 (by decide) ?_
        refine lv_iload_n hx hb dX4_lay_15 rfl (lv_at hl 1 rfl) ?_
        refine lv_iadd hx hb dX4_lay_16 ?_
        refine tp_as (nI_add 1464 x) ?_
        refine lv_aload_n hx hb dX4_lay_17 rfl (lv_at hl 0 rfl) ?_
        refine va_get (D := (dC, dI)) (ci := 4) (v := .ref m1) (C := RX4) (T := TX4) (N := 13) hx hb hts inX4 hown hK hP 0 rfl rfl 0 (by decide) (hts (.fieldLink RX4 7 "StoreSlopesModel" "now" "[I") (List.mem_of_getElem? (i := 2) rfl)) (fun _ h9 => h9) rfl dX4_lay_18 ?_
        refine lv_iconst (v := nI 5) hx hb dX4_lay_21 (by decide) ?_
        refine va_iald hx hb hK hP 1 0 rfl rfl (vp_in_nI (show 5 < 93 by omega) (by omega)) dX4_lay_22 ?_
        refine tp_any (fun y_6 => ?_)
        refine lv_iload_n hx hb dX4_lay_23 rfl (lv_at hl 1 rfl) ?_
        refine lv_imul hx hb dX4_lay_24 ?_
        refine tp_any (fun y_7 => ?_)
        refine va_iast hx hb hK hP hD hS 2 1 rfl rfl (vp_in_nI (show 1464 + x < 1525 by omega) (by omega)) dX4_lay_25 (fun H locs hP hD hS => ?_)
        have hP : va_P (dC, dI) vwCl [(m0, .inr (4, [.ref m1, .ref m2, .int (nI bk), .ref m3, .ref m4, .ref m5, .ref m6, .int sd, .ref m7, .ref m8, .int cl, .int pc, .int op])), (m1, .inl (km1, 93, .inl nw)), (m7, .inl (km7, 1525, .inl (upd vlv (nI (1464 + x)).toNatClampNeg (y_7))))] H := hP
        have hD : va_D A [(m0, .inr (4, [.ref m1, .ref m2, .int (nI bk), .ref m3, .ref m4, .ref m5, .ref m6, .int sd, .ref m7, .ref m8, .int cl, .int pc, .int op])), (m1, .inl (km1, 93, .inl nw)), (m7, .inl (km7, 1525, .inl (upd vlv (nI (1464 + x)).toNatClampNeg (y_7))))] := hD
        generalize ef_8 : upd vlv (nI (1464 + x)).toNatClampNeg (y_7) = f_8 at hP hD
        clear ef_8
        refine lv_iinc (v := nI (x + 1)) (lv' := [(1, .int (nI (x + 1))), (0, .ref m0)]) hx hb dX4_lay_26 hl (k := 1) rfl (inc_n x 1) (by decide) rfl (fun ls hl => ?_)
        refine lv_goto (tgt := 2) hx hb dX4_lay_29 (by decide) ?_
        exact ih2 (x + 1) f_8 _ _ _ (by first | assumption | omega) (by omega) hP hD hS (lv_sub hl [1, 0] rfl)
  exact L2 (61 - 0 + 1) 0 vl _ _ _ (by first | assumption | omega) (Nat.lt_succ_self _) hP hD hS (lv_sub hl [1, 0] rfl)
set_option maxHeartbeats 4000000 in
set_option maxRecDepth 100000 in
theorem c_X4_bestOf (l : Launch) (dC : Nat → ClassId) (dI : Nat → Nat → Nat) (m0 m1 m7 m2 m3 m4 m5 m6 m8 : Nat) (km1 km7 : ClassId) (sz : Nat) (bk : Nat) (sd : Int32) (cl : Int32) (pc : Int32) (op : Int32) (nw : Nat → Int32) (vl : Nat → Int32) (i0 : bk ≤ 40) (i1 : okN nw) : Met l yX4_bestOf wsX4_bestOf ({ frames := 6, cells := 0, slots := 0, locals := 142 }) (va_Pc [.ref m0] (fun U => U.heap.size = sz ∧ va_P (dC, dI) vwCl [(m0, .inr (4, [.ref m1, .ref m2, .int (nI bk), .ref m3, .ref m4, .ref m5, .ref m6, .int sd, .ref m7, .ref m8, .int cl, .int pc, .int op])), (m1, .inl (km1, 93, .inl nw)), (m7, .inl (km7, 1525, .inl vl))] U.heap ∧ va_K (dC, dI) vwCl [(km1, .int), (km7, .int)] U ∧ va_D (fun _ => True) [(m0, .inr (4, [.ref m1, .ref m2, .int (nI bk), .ref m3, .ref m4, .ref m5, .ref m6, .int sd, .ref m7, .ref m8, .int cl, .int pc, .int op])), (m1, .inl (km1, 93, .inl nw)), (m7, .inl (km7, 1525, .inl vl))])) (va_Qi (fun (r u : Int32) => u = r) (fun r t => ∃ (vl' : Nat → Int32), layAll nw cl pc op vl' 0 ∧ (∀ a b : Nat, nw 0 = nI a → nw 1 = nI b → a ≤ 24 → b ≤ 60 → r = vl' (61 * a + b)) ∧ va_P (dC, dI) vwCl [(m0, .inr (4, [.ref m1, .ref m2, .int (nI bk), .ref m3, .ref m4, .ref m5, .ref m6, .int sd, .ref m7, .ref m8, .int cl, .int pc, .int op])), (m1, .inl (km1, 93, .inl nw)), (m7, .inl (km7, 1525, .inl vl'))] t.heap ∧ va_K (dC, dI) vwCl [(km1, .int), (km7, .int)] t ∧ va_D (va_A [(m0, .inr (4, [.ref m1, .ref m2, .int (nI bk), .ref m3, .ref m4, .ref m5, .ref m6, .int sd, .ref m7, .ref m8, .int cl, .int pc, .int op])), (m1, .inl (km1, 93, .inl nw)), (m7, .inl (km7, 1525, .inl vl))] sz) [(m0, .inr (4, [.ref m1, .ref m2, .int (nI bk), .ref m3, .ref m4, .ref m5, .ref m6, .int sd, .ref m7, .ref m8, .int cl, .int pc, .int op])), (m1, .inl (km1, 93, .inl nw)), (m7, .inl (km7, 1525, .inl vl'))]) (va_A [(m0, .inr (4, [.ref m1, .ref m2, .int (nI bk), .ref m3, .ref m4, .ref m5, .ref m6, .int sd, .ref m7, .ref m8, .int cl, .int pc, .int op])), (m1, .inl (km1, 93, .inl nw)), (m7, .inl (km7, 1525, .inl vl))] sz)) 0 0 (va_A [(m0, .inr (4, [.ref m1, .ref m2, .int (nI bk), .ref m3, .ref m4, .ref m5, .ref m6, .int sd, .ref m7, .ref m8, .int cl, .int pc, .int op])), (m1, .inl (km1, 93, .inl nw)), (m7, .inl (km7, 1525, .inl vl))] sz) := by
  refine Met.ofW (cc := cX4_bestOf) (maxL := 1) (ret := (some .int)) (by decide) rfl ?_
  intro p e s m args below meth c s₁ B hml hv
  obtain ⟨rfl, hsz, hP, hK, hD0⟩ := hv
  have hx := B.exec
  have hb := B.bytes
  have hr := B.returns
  have hts := atoms_spec (ws := wsX4_bestOf) B.pre
  have hown : s.vm.findClass RX4 = some m.cls := findClass_of_methodNamed B.named
  have hlocks := B.notSynchronized
  have inX4 : ∀ w ∈ wsX40, w ∈ wsX4_bestOf := fun _ h => List.mem_cons_of_mem _ (List.mem_append_right _ h)
  subst hsz
  have hD := hD0.self (sz := s.heap.size)
  generalize hAe : va_A [(m0, .inr (4, [.ref m1, .ref m2, .int (nI bk), .ref m3, .ref m4, .ref m5, .ref m6, .int sd, .ref m7, .ref m8, .int cl, .int pc, .int op])), (m1, .inl (km1, 93, .inl nw)), (m7, .inl (km7, 1525, .inl vl))] s.heap.size = A at hD ⊢
  have hA : ∀ q : Nat, s.heap.size ≤ q → A q := fun q h => by rw [← hAe]; exact Or.inr h
  have hS : va_S A s.heap s.heap [] := va_S.rf
  have hl := lv_entry ([.ref m0]) (n := 1) (Nat.le_of_ble_eq_true rfl)
  rw [lg_entry_eq]
  generalize (lg_sl ([.ref m0]) ++ List.replicate (1 - (lg_sl ([.ref m0])).length) Slot.unset).toArray = ls at hl ⊢
  generalize hQe : MQ below _ _ s 0 0 _ = Q
  generalize ([.ref m0] : List Value).toArray = args at hts hQe ⊢
  have hl : lv_has ls 1 [(0, .ref m0)] := hl
  obtain ⟨ov, hov, eov⟩ := i1.1
  obtain ⟨st, hst, est⟩ := i1.2.1
  refine lv_aload_n hx hb dX4_bestOf_0 rfl (lv_at hl 0 rfl) ?_
  have hPc := hP.sub (ws' := [(m0, .inr (4, [.ref m1, .ref m2, .int (nI bk), .ref m3, .ref m4, .ref m5, .ref m6, .int sd, .ref m7, .ref m8, .int cl, .int pc, .int op])), (m1, .inl (km1, 93, .inl nw)), (m7, .inl (km7, 1525, .inl vl))]) [0, 1, 2] rfl
  have hKc := hK.sub (tys' := [(km1, .int), (km7, .int)]) [0, 1] rfl
  have hDc := hD.sub (ws' := [(m0, .inr (4, [.ref m1, .ref m2, .int (nI bk), .ref m3, .ref m4, .ref m5, .ref m6, .int sd, .ref m7, .ref m8, .int cl, .int pc, .int op])), (m1, .inl (km1, 93, .inl nw)), (m7, .inl (km7, 1525, .inl vl))]) [0, 1, 2] (by decide) rfl
  have hFc := va_free (wc := [(m0, .inr (4, [.ref m1, .ref m2, .int (nI bk), .ref m3, .ref m4, .ref m5, .ref m6, .int sd, .ref m7, .ref m8, .int cl, .int pc, .int op])), (m1, .inl (km1, 93, .inl nw)), (m7, .inl (km7, 1525, .inl vl))]) hD hS hA [0, 1, 2] rfl
  refine va_callv (va_runV (As := []) (rest := []) ⟨hx, hb, hml, hown, hts⟩ (c_X4_lay l dC dI m0 m1 m7 m2 m3 m4 m5 m6 m8 km1 km7 s.heap.size bk sd cl pc op nw vl  (by first | assumption | omega) (by first | assumption | omega) ) (cwV 0 hts gX4_bestOf_X4_lay rfl rfl rfl (by decide +kernel) ⟨Nat.le_of_ble_eq_true rfl, Nat.le_of_ble_eq_true rfl⟩) ⟨fun a U g mk q => by obtain ⟨q0, q1, qP, qK, qD⟩ := q; exact ⟨q0, q1, qP, va_K.moved (u := U) (U := U.calling g mk a) (Vm.Alike.refl U.vm) qK, qD⟩, va_recv hKc hPc (ci := 4) (q0 := 0) rfl rfl, fun U hU hW => ⟨rfl, by rw [hU], by rw [hU]; exact hPc, va_K.moved hW.alike hKc, hDc.weaken (fun _ _ _ _ => trivial)⟩⟩ rfl rfl hl.1 rfl (lv_room (Nat.le_of_ble_eq_true rfl)) dX4_bestOf_1 ⟨Nat.le_of_ble_eq_true rfl, Nat.le_of_ble_eq_true rfl⟩) hS (fun q _ h => hFc q h) hFc (fun u9 t9 H1 locs ht hvm hw hB hz1 hk1 hS => ?_)
  refine W.widen (k := 0) (n := 0) (Nat.le_of_ble_eq_true rfl) (Nat.le_of_ble_eq_true rfl) ?_
  obtain ⟨⟩ := u9
  obtain ⟨vl_2, h_3, hP1, hK1, hD1⟩ := hB
  rw [ht] at hP1
  obtain ⟨hP, hD⟩ := va_join (wr := []) (w1 := [(m0, .inr (4, [.ref m1, .ref m2, .int (nI bk), .ref m3, .ref m4, .ref m5, .ref m6, .int sd, .ref m7, .ref m8, .int cl, .int pc, .int op])), (m1, .inl (km1, 93, .inl nw)), (m7, .inl (km7, 1525, .inl vl_2))]) hP hD [0, 1, 2] [] rfl rfl (by decide) (by decide) hk1 hFc hP1 hD1
  clear hPc hDc hKc hFc hz1 hk1 ht hvm hP1 hK1 hD1 hw t9
  generalize H1 = H at hP hS ⊢
  have hP := hP.sub (ws' := [(m0, .inr (4, [.ref m1, .ref m2, .int (nI bk), .ref m3, .ref m4, .ref m5, .ref m6, .int sd, .ref m7, .ref m8, .int cl, .int pc, .int op])), (m1, .inl (km1, 93, .inl nw)), (m7, .inl (km7, 1525, .inl vl_2))]) [0, 1, 2] rfl
  have hD := hD.sub (ws' := [(m0, .inr (4, [.ref m1, .ref m2, .int (nI bk), .ref m3, .ref m4, .ref m5, .ref m6, .int sd, .ref m7, .ref m8, .int cl, .int pc, .int op])), (m1, .inl (km1, 93, .inl nw)), (m7, .inl (km7, 1525, .inl vl_2))]) [0, 1, 2] (by decide) rfl
  refine lv_aload_n hx hb dX4_bestOf_4 rfl (lv_at hl 0 rfl) ?_
  refine va_get (D := (dC, dI)) (ci := 4) (v := .ref m7) (C := RX4) (T := TX4) (N := 13) hx hb hts inX4 hown hK hP 0 rfl rfl 8 (by decide) (hts (.fieldLink RX4 29 "StoreSlopesModel" "value" "[I") (List.mem_of_getElem? (i := 1) rfl)) (fun _ h9 => h9) rfl dX4_bestOf_5 ?_
  refine lv_bipush (v := nI 61) hx hb dX4_bestOf_8 (by decide) ?_
  refine lv_aload_n hx hb dX4_bestOf_10 rfl (lv_at hl 0 rfl) ?_
  refine va_get (D := (dC, dI)) (ci := 4) (v := .ref m1) (C := RX4) (T := TX4) (N := 13) hx hb hts inX4 hown hK hP 0 rfl rfl 0 (by decide) (hts (.fieldLink RX4 7 "StoreSlopesModel" "now" "[I") (List.mem_of_getElem? (i := 2) rfl)) (fun _ h9 => h9) rfl dX4_bestOf_11 ?_
  refine lv_iconst (v := nI 0) hx hb dX4_bestOf_14 (by decide) ?_
  refine va_iald hx hb hK hP 1 0 rfl rfl (vp_in_nI (show 0 < 93 by omega) (by omega)) dX4_bestOf_15 ?_
  refine tp_as (cl_as (by omega) eov) ?_
  refine lv_imul hx hb dX4_bestOf_16 ?_
  refine tp_as (pk_mul 61 ov) ?_
  refine lv_aload_n hx hb dX4_bestOf_17 rfl (lv_at hl 0 rfl) ?_
  refine va_get (D := (dC, dI)) (ci := 4) (v := .ref m1) (C := RX4) (T := TX4) (N := 13) hx hb hts inX4 hown hK hP 0 rfl rfl 0 (by decide) (hts (.fieldLink RX4 7 "StoreSlopesModel" "now" "[I") (List.mem_of_getElem? (i := 2) rfl)) (fun _ h9 => h9) rfl dX4_bestOf_18 ?_
  refine lv_iconst (v := nI 1) hx hb dX4_bestOf_21 (by decide) ?_
  refine va_iald hx hb hK hP 1 0 rfl rfl (vp_in_nI (show 1 < 93 by omega) (by omega)) dX4_bestOf_22 ?_
  refine tp_as (cl_as (by omega) est) ?_
  refine lv_iadd hx hb dX4_bestOf_23 ?_
  refine tp_as (nI_add (61 * ov) st) ?_
  refine va_iald hx hb hK hP 2 1 rfl rfl (vp_in_nI (show 61 * ov + st < 1525 by omega) (by omega)) dX4_bestOf_24 ?_
  refine tp_as (cl_at (by omega)) ?_
  subst hQe
  have hP9 := hP.sub (ws' := [(m0, .inr (4, [.ref m1, .ref m2, .int (nI bk), .ref m3, .ref m4, .ref m5, .ref m6, .int sd, .ref m7, .ref m8, .int cl, .int pc, .int op])), (m1, .inl (km1, 93, .inl nw)), (m7, .inl (km7, 1525, .inl vl_2))]) [0, 1, 2] rfl
  have hD9 := hD.sub (ws' := [(m0, .inr (4, [.ref m1, .ref m2, .int (nI bk), .ref m3, .ref m4, .ref m5, .ref m6, .int sd, .ref m7, .ref m8, .int cl, .int pc, .int op])), (m1, .inl (km1, 93, .inl nw)), (m7, .inl (km7, 1525, .inl vl_2))]) [0, 1, 2] (by decide) rfl
  have hK9 := hK.sub (tys' := [(km1, .int), (km7, .int)]) [0, 1] rfl
  subst hAe
  exact W.iret (v := (vl_2 (61 * ov + st))) hx hb hr (fun t ht hW => ⟨⟨_, _, rfl, rfl, vl_2, (by first | assumption | omega), (fun a b ha hb h1 h2 => by rw [eov] at ha; rw [est] at hb; rw [(nI_eq (by omega) (by omega)).mp ha, (nI_eq (by omega) (by omega)).mp hb]), by rw [ht]; exact hP9, va_K.moved hW.alike hK9, hD9⟩, hS.F ht⟩) hS.2.2 dX4_bestOf_25
set_option maxHeartbeats 4000000 in
set_option maxRecDepth 100000 in
theorem c_X4_isPlanned (l : Launch) (dC : Nat → ClassId) (dI : Nat → Nat → Nat) (m0 m1 m7 m8 m2 m3 m4 m5 m6 : Nat) (km1 km7 km8 : ClassId) (sz : Nat) (bk : Nat) (sd : Int32) (cl : Int32) (pc : Int32) (op : Int32) (nw : Nat → Int32) (vl : Nat → Int32) (pl : Nat → Int32) (i0 : bk ≤ 40) (i1 : okN nw) (i2 : bdA 60 24 pl) : Met l yX4_isPlanned wsX4_isPlanned ({ frames := 7, cells := 0, slots := 0, locals := 162 }) (va_Pc [.ref m0] (fun U => U.heap.size = sz ∧ va_P (dC, dI) vwCl [(m0, .inr (4, [.ref m1, .ref m2, .int (nI bk), .ref m3, .ref m4, .ref m5, .ref m6, .int sd, .ref m7, .ref m8, .int cl, .int pc, .int op])), (m1, .inl (km1, 93, .inl nw)), (m7, .inl (km7, 1525, .inl vl)), (m8, .inl (km8, 24, .inl pl))] U.heap ∧ va_K (dC, dI) vwCl [(km1, .int), (km7, .int), (km8, .int)] U ∧ va_D (fun _ => True) [(m0, .inr (4, [.ref m1, .ref m2, .int (nI bk), .ref m3, .ref m4, .ref m5, .ref m6, .int sd, .ref m7, .ref m8, .int cl, .int pc, .int op])), (m1, .inl (km1, 93, .inl nw)), (m7, .inl (km7, 1525, .inl vl)), (m8, .inl (km8, 24, .inl pl))])) (va_Qi (fun (r u : Int32) => u = r) (fun r t => ∃ (vl' : Nat → Int32) (pl' : Nat → Int32), bdA 60 24 pl' ∧ va_P (dC, dI) vwCl [(m0, .inr (4, [.ref m1, .ref m2, .int (nI bk), .ref m3, .ref m4, .ref m5, .ref m6, .int sd, .ref m7, .ref m8, .int cl, .int pc, .int op])), (m1, .inl (km1, 93, .inl nw)), (m7, .inl (km7, 1525, .inl vl')), (m8, .inl (km8, 24, .inl pl'))] t.heap ∧ va_K (dC, dI) vwCl [(km1, .int), (km7, .int), (km8, .int)] t ∧ va_D (va_A [(m0, .inr (4, [.ref m1, .ref m2, .int (nI bk), .ref m3, .ref m4, .ref m5, .ref m6, .int sd, .ref m7, .ref m8, .int cl, .int pc, .int op])), (m1, .inl (km1, 93, .inl nw)), (m7, .inl (km7, 1525, .inl vl)), (m8, .inl (km8, 24, .inl pl))] sz) [(m0, .inr (4, [.ref m1, .ref m2, .int (nI bk), .ref m3, .ref m4, .ref m5, .ref m6, .int sd, .ref m7, .ref m8, .int cl, .int pc, .int op])), (m1, .inl (km1, 93, .inl nw)), (m7, .inl (km7, 1525, .inl vl')), (m8, .inl (km8, 24, .inl pl'))]) (va_A [(m0, .inr (4, [.ref m1, .ref m2, .int (nI bk), .ref m3, .ref m4, .ref m5, .ref m6, .int sd, .ref m7, .ref m8, .int cl, .int pc, .int op])), (m1, .inl (km1, 93, .inl nw)), (m7, .inl (km7, 1525, .inl vl)), (m8, .inl (km8, 24, .inl pl))] sz)) 0 0 (va_A [(m0, .inr (4, [.ref m1, .ref m2, .int (nI bk), .ref m3, .ref m4, .ref m5, .ref m6, .int sd, .ref m7, .ref m8, .int cl, .int pc, .int op])), (m1, .inl (km1, 93, .inl nw)), (m7, .inl (km7, 1525, .inl vl)), (m8, .inl (km8, 24, .inl pl))] sz) := by
  refine Met.ofW (cc := cX4_isPlanned) (maxL := 5) (ret := (some .boolean)) (by decide) rfl ?_
  intro p e s m args below meth c s₁ B hml hv
  obtain ⟨rfl, hsz, hP, hK, hD0⟩ := hv
  have hx := B.exec
  have hb := B.bytes
  have hr := B.returns
  have hts := atoms_spec (ws := wsX4_isPlanned) B.pre
  have hown : s.vm.findClass RX4 = some m.cls := findClass_of_methodNamed B.named
  have hlocks := B.notSynchronized
  have inX4 : ∀ w ∈ wsX40, w ∈ wsX4_isPlanned := fun _ h => List.mem_cons_of_mem _ (List.mem_append_right _ h)
  subst hsz
  have hD := hD0.self (sz := s.heap.size)
  generalize hAe : va_A [(m0, .inr (4, [.ref m1, .ref m2, .int (nI bk), .ref m3, .ref m4, .ref m5, .ref m6, .int sd, .ref m7, .ref m8, .int cl, .int pc, .int op])), (m1, .inl (km1, 93, .inl nw)), (m7, .inl (km7, 1525, .inl vl)), (m8, .inl (km8, 24, .inl pl))] s.heap.size = A at hD ⊢
  have hA : ∀ q : Nat, s.heap.size ≤ q → A q := fun q h => by rw [← hAe]; exact Or.inr h
  have hS : va_S A s.heap s.heap [] := va_S.rf
  have hl := lv_entry ([.ref m0]) (n := 5) (Nat.le_of_ble_eq_true rfl)
  rw [lg_entry_eq]
  generalize (lg_sl ([.ref m0]) ++ List.replicate (5 - (lg_sl ([.ref m0])).length) Slot.unset).toArray = ls at hl ⊢
  generalize hQe : MQ below _ _ s 0 0 _ = Q
  generalize ([.ref m0] : List Value).toArray = args at hts hQe ⊢
  have hl : lv_has ls 5 [(0, .ref m0)] := hl
  obtain ⟨ov, hov, eov⟩ := i1.1
  obtain ⟨st, hst, est⟩ := i1.2.1
  obtain ⟨gv, hgv, egv⟩ := i1.2.2.2.1
  refine lv_aload_n hx hb dX4_isPlanned_0 rfl (lv_at hl 0 rfl) ?_
  have hPc := hP.sub (ws' := [(m0, .inr (4, [.ref m1, .ref m2, .int (nI bk), .ref m3, .ref m4, .ref m5, .ref m6, .int sd, .ref m7, .ref m8, .int cl, .int pc, .int op])), (m1, .inl (km1, 93, .inl nw)), (m7, .inl (km7, 1525, .inl vl))]) [0, 1, 2] rfl
  have hKc := hK.sub (tys' := [(km1, .int), (km7, .int)]) [0, 1] rfl
  have hDc := hD.sub (ws' := [(m0, .inr (4, [.ref m1, .ref m2, .int (nI bk), .ref m3, .ref m4, .ref m5, .ref m6, .int sd, .ref m7, .ref m8, .int cl, .int pc, .int op])), (m1, .inl (km1, 93, .inl nw)), (m7, .inl (km7, 1525, .inl vl))]) [0, 1, 2] (by decide) rfl
  have hFc := va_free (wc := [(m0, .inr (4, [.ref m1, .ref m2, .int (nI bk), .ref m3, .ref m4, .ref m5, .ref m6, .int sd, .ref m7, .ref m8, .int cl, .int pc, .int op])), (m1, .inl (km1, 93, .inl nw)), (m7, .inl (km7, 1525, .inl vl))]) hD hS hA [0, 1, 2] rfl
  refine va_calli (va_runV (As := []) (rest := []) ⟨hx, hb, hml, hown, hts⟩ (c_X4_bestOf l dC dI m0 m1 m7 m2 m3 m4 m5 m6 m8 km1 km7 s.heap.size bk sd cl pc op nw vl  (by first | assumption | omega) (by first | assumption | omega) ) (cwV 0 hts gX4_isPlanned_X4_bestOf rfl rfl rfl (by decide +kernel) ⟨Nat.le_of_ble_eq_true rfl, Nat.le_of_ble_eq_true rfl⟩) ⟨fun a U g mk q => by obtain ⟨q0, q1, qP, qK, qD⟩ := q; exact ⟨q0, q1, qP, va_K.moved (u := U) (U := U.calling g mk a) (Vm.Alike.refl U.vm) qK, qD⟩, va_recv hKc hPc (ci := 4) (q0 := 0) rfl rfl, fun U hU hW => ⟨rfl, by rw [hU], by rw [hU]; exact hPc, va_K.moved hW.alike hKc, hDc.weaken (fun _ _ _ _ => trivial)⟩⟩ rfl rfl hl.1 rfl (lv_room (Nat.le_of_ble_eq_true rfl)) dX4_isPlanned_1 ⟨Nat.le_of_ble_eq_true rfl, Nat.le_of_ble_eq_true rfl⟩) hS (fun q _ h => hFc q h) hFc (fun r_1 u9 t9 H1 locs ht hvm hw hB hz1 hk1 hS => ?_)
  refine W.widen (k := 0) (n := 0) (Nat.le_of_ble_eq_true rfl) (Nat.le_of_ble_eq_true rfl) ?_
  obtain ⟨vl_2, h_3, h_4, hP1, hK1, hD1⟩ := hB
  rw [ht] at hP1
  have hw := hw.symm
  subst hw
  obtain ⟨hP, hD⟩ := va_join (wr := [(m8, .inl (km8, 24, .inl pl))]) (w1 := [(m0, .inr (4, [.ref m1, .ref m2, .int (nI bk), .ref m3, .ref m4, .ref m5, .ref m6, .int sd, .ref m7, .ref m8, .int cl, .int pc, .int op])), (m1, .inl (km1, 93, .inl nw)), (m7, .inl (km7, 1525, .inl vl_2))]) hP hD [0, 1, 2] [3] rfl rfl (by decide) (by decide) hk1 hFc hP1 hD1
  clear hPc hDc hKc hFc hz1 hk1 ht hvm hP1 hK1 hD1 t9
  generalize H1 = H at hP hS ⊢
  have hP := hP.sub (ws' := [(m0, .inr (4, [.ref m1, .ref m2, .int (nI bk), .ref m3, .ref m4, .ref m5, .ref m6, .int sd, .ref m7, .ref m8, .int cl, .int pc, .int op])), (m1, .inl (km1, 93, .inl nw)), (m7, .inl (km7, 1525, .inl vl_2)), (m8, .inl (km8, 24, .inl pl))]) [1, 2, 3, 0] rfl
  have hD := hD.sub (ws' := [(m0, .inr (4, [.ref m1, .ref m2, .int (nI bk), .ref m3, .ref m4, .ref m5, .ref m6, .int sd, .ref m7, .ref m8, .int cl, .int pc, .int op])), (m1, .inl (km1, 93, .inl nw)), (m7, .inl (km7, 1525, .inl vl_2)), (m8, .inl (km8, 24, .inl pl))]) [1, 2, 3, 0] (by decide) rfl
  have hbest := h_4 ov st eov est (by omega) (by omega)
  refine lv_ldc (own := RX4) (v := (-500000000)) hx hb hown (hts (.constant RX4 67 (-500000000)) (List.mem_of_getElem? (i := 1) rfl)) dX4_isPlanned_4 ?_
  refine lv_icmp_ne (tgt := 11) hx hb dX4_isPlanned_6 (by decide) (fun c_6 => ?_) (fun c_6 => ?_)
  · rw [hbest] at c_6
    refine lv_aload_n hx hb dX4_isPlanned_11 rfl (lv_at hl 0 rfl) ?_
    refine va_get (D := (dC, dI)) (ci := 4) (v := .ref m1) (C := RX4) (T := TX4) (N := 13) hx hb hts inX4 hown hK hP 0 rfl rfl 0 (by decide) (hts (.fieldLink RX4 7 "StoreSlopesModel" "now" "[I") (List.mem_of_getElem? (i := 2) rfl)) (fun _ h9 => h9) rfl dX4_isPlanned_12 ?_
    refine lv_iconst (v := nI 1) hx hb dX4_isPlanned_15 (by decide) ?_
    refine va_iald hx hb hK hP 1 0 rfl rfl (vp_in_nI (show 1 < 93 by omega) (by omega)) dX4_isPlanned_16 ?_
    refine tp_as (cl_as (by omega) est) ?_
    refine lv_istore_n (lv' := [(1, .int (nI st)), (0, .ref m0)]) hx hb dX4_isPlanned_17 rfl hl (by decide) rfl (fun ls hl => ?_)
    refine lv_aload_n hx hb dX4_isPlanned_18 rfl (lv_at hl 1 rfl) ?_
    refine va_get (D := (dC, dI)) (ci := 4) (v := .ref m1) (C := RX4) (T := TX4) (N := 13) hx hb hts inX4 hown hK hP 0 rfl rfl 0 (by decide) (hts (.fieldLink RX4 7 "StoreSlopesModel" "now" "[I") (List.mem_of_getElem? (i := 2) rfl)) (fun _ h9 => h9) rfl dX4_isPlanned_19 ?_
    refine lv_iconst (v := nI 0) hx hb dX4_isPlanned_22 (by decide) ?_
    refine va_iald hx hb hK hP 1 0 rfl rfl (vp_in_nI (show 0 < 93 by omega) (by omega)) dX4_isPlanned_23 ?_
    refine tp_as (cl_as (by omega) eov) ?_
    refine lv_istore_n (lv' := [(2, .int (nI ov)), (1, .int (nI st)), (0, .ref m0)]) hx hb dX4_isPlanned_24 rfl hl (by decide) rfl (fun ls hl => ?_)
    have L25 : ∀ (n : Nat) (i : Nat) (y : Nat) (plv : Nat → Int32) (H : Heap) (locs : List Loc) (ls : Array Slot), i ≤ 24 → y ≤ 60 → ¬ vl_2 (61 * i + y) = -500000000 → bdA 60 24 plv → 24 - i < n → va_P (dC, dI) vwCl [(m0, .inr (4, [.ref m1, .ref m2, .int (nI bk), .ref m3, .ref m4, .ref m5, .ref m6, .int sd, .ref m7, .ref m8, .int cl, .int pc, .int op])), (m1, .inl (km1, 93, .inl nw)), (m7, .inl (km7, 1525, .inl vl_2)), (m8, .inl (km8, 24, .inl plv))] H → va_D A [(m0, .inr (4, [.ref m1, .ref m2, .int (nI bk), .ref m3, .ref m4, .ref m5, .ref m6, .int sd, .ref m7, .ref m8, .int cl, .int pc, .int op])), (m1, .inl (km1, 93, .inl nw)), (m7, .inl (km7, 1525, .inl vl_2)), (m8, .inl (km8, 24, .inl plv))] → va_S A s.heap H locs → lv_has ls 5 [(0, .ref m0), (1, .int (nI y)), (2, .int (nI i))] → W p l e (headSpec wsX4_isPlanned { frames := 7, cells := 0, slots := 0, locals := 162 }).room s m args below meth c H locs 0 0 Q (F0 m 25 ls []) := by
      intro n
      induction n with
      | zero => intro i y plv H locs ls hL25_0 hL25_1 hL25_2 hL25_3 hn; exact absurd hn (Nat.not_lt_zero _)
      | succ n ih25 =>
        intro i y plv H locs ls hL25_0 hL25_1 hL25_2 hL25_3 hn hP hD hS hl
        refine lv_iload_n hx hb dX4_isPlanned_25 rfl (lv_at hl 2 rfl) ?_
        refine lv_bipush (v := nI 24) hx hb dX4_isPlanned_26 (by decide) ?_
        refine lv_icmp_ge (tgt := 157) hx hb dX4_isPlanned_28 (by decide) (fun c_28 => ?_) (fun c_28 => ?_)
        · have c_28 := (nI_leI (by omega : 24 < 2 ^ 31) (by omega : i < 2 ^ 31)).mp c_28
          refine lv_iconst (v := nI 1) hx hb dX4_isPlanned_157 (by decide) ?_
          subst hQe
          have hP9 := hP.sub (ws' := [(m0, .inr (4, [.ref m1, .ref m2, .int (nI bk), .ref m3, .ref m4, .ref m5, .ref m6, .int sd, .ref m7, .ref m8, .int cl, .int pc, .int op])), (m1, .inl (km1, 93, .inl nw)), (m7, .inl (km7, 1525, .inl vl_2)), (m8, .inl (km8, 24, .inl plv))]) [0, 1, 2, 3] rfl
          have hD9 := hD.sub (ws' := [(m0, .inr (4, [.ref m1, .ref m2, .int (nI bk), .ref m3, .ref m4, .ref m5, .ref m6, .int sd, .ref m7, .ref m8, .int cl, .int pc, .int op])), (m1, .inl (km1, 93, .inl nw)), (m7, .inl (km7, 1525, .inl vl_2)), (m8, .inl (km8, 24, .inl plv))]) [0, 1, 2, 3] (by decide) rfl
          have hK9 := hK.sub (tys' := [(km1, .int), (km7, .int), (km8, .int)]) [0, 1, 2] rfl
          subst hAe
          exact W.zret (v := (nI 1)) hx hb hr (by decide) (fun t ht hW => ⟨⟨_, _, rfl, rfl, vl_2, plv, (by first | assumption | omega), by rw [ht]; exact hP9, va_K.moved hW.alike hK9, hD9⟩, hS.F ht⟩) hS.2.2 dX4_isPlanned_158
        · have c_28 := (not_congr (nI_leI (by omega : 24 < 2 ^ 31) (by omega : i < 2 ^ 31))).mp c_28
          refine lv_aload_n hx hb dX4_isPlanned_31 rfl (lv_at hl 0 rfl) ?_
          refine lv_iload_n hx hb dX4_isPlanned_32 rfl (lv_at hl 2 rfl) ?_
          have hPc := hP.sub (ws' := [(m0, .inr (4, [.ref m1, .ref m2, .int (nI bk), .ref m3, .ref m4, .ref m5, .ref m6, .int sd, .ref m7, .ref m8, .int cl, .int pc, .int op])), (m1, .inl (km1, 93, .inl nw))]) [0, 1] rfl
          have hKc := hK.sub (tys' := [(km1, .int)]) [0] rfl
          refine va_calli (va_runV (As := [.int (nI i)]) (rest := []) ⟨hx, hb, hml, hown, hts⟩ (c_X4_priceOf l dC dI m0 m1 m2 m3 m4 m5 m6 m7 m8 km1 bk sd cl pc op nw (nI i) (by first | assumption | omega) (by first | assumption | omega) ) (cwV 1 hts gX4_isPlanned_X4_priceOf rfl rfl rfl (by decide +kernel) ⟨Nat.le_of_ble_eq_true rfl, Nat.le_of_ble_eq_true rfl⟩) ⟨fun a U g mk q => by obtain ⟨q0, qP, qK⟩ := q; exact ⟨q0, qP, va_K.moved (u := U) (U := U.calling g mk a) (Vm.Alike.refl U.vm) qK⟩, va_recv hKc hPc (ci := 4) (q0 := 0) rfl rfl, fun U hU hW => ⟨rfl, by rw [hU]; exact hPc, va_K.moved hW.alike hKc⟩⟩ rfl rfl hl.1 rfl (lv_room (Nat.le_of_ble_eq_true rfl)) dX4_isPlanned_33 ⟨Nat.le_of_ble_eq_true rfl, Nat.le_of_ble_eq_true rfl⟩) hS (fun q _ h => h.elim) (fun q h => h.elim) (fun r_6 u9 t9 H1 locs ht hvm hw hB hz1 hk1 hS => ?_)
          refine W.widen (k := 0) (n := 0) (Nat.le_of_ble_eq_true rfl) (Nat.le_of_ble_eq_true rfl) ?_
          have hP := hP.kept (H1 := H1) (fun k q hk => hk1 q.1 (hP k q hk).lt (fun h => h))
          clear hz1 hk1 hB ht hvm t9
          generalize H1 = H at hP hS ⊢
          have hP : va_P (dC, dI) vwCl [(m0, .inr (4, [.ref m1, .ref m2, .int (nI bk), .ref m3, .ref m4, .ref m5, .ref m6, .int sd, .ref m7, .ref m8, .int cl, .int pc, .int op])), (m1, .inl (km1, 93, .inl nw)), (m7, .inl (km7, 1525, .inl vl_2)), (m8, .inl (km8, 24, .inl plv))] H := hP
          subst hw
          refine lv_istore_n (lv' := [(3, .int (mp_po nw pc op (nI i))), (0, .ref m0), (1, .int (nI y)), (2, .int (nI i))]) hx hb dX4_isPlanned_36 rfl hl (by decide) rfl (fun ls hl => ?_)
          refine lv_iload_n hx hb dX4_isPlanned_37 rfl (lv_at hl 2 rfl) ?_
          refine lv_aload_n hx hb dX4_isPlanned_38 rfl (lv_at hl 1 rfl) ?_
          refine va_get (D := (dC, dI)) (ci := 4) (v := .ref m1) (C := RX4) (T := TX4) (N := 13) hx hb hts inX4 hown hK hP 0 rfl rfl 0 (by decide) (hts (.fieldLink RX4 7 "StoreSlopesModel" "now" "[I") (List.mem_of_getElem? (i := 2) rfl)) (fun _ h9 => h9) rfl dX4_isPlanned_39 ?_
          refine lv_iconst (v := nI 3) hx hb dX4_isPlanned_42 (by decide) ?_
          refine va_iald hx hb hK hP 1 0 rfl rfl (vp_in_nI (show 3 < 93 by omega) (by omega)) dX4_isPlanned_43 ?_
          refine tp_as (cl_as (by omega) egv) ?_
          refine lv_isub hx hb dX4_isPlanned_44 ?_
          have J60 : ∀ (ma : Nat) (H : Heap) (locs : List Loc) (ls : Array Slot), ma = y - gv → va_P (dC, dI) vwCl [(m0, .inr (4, [.ref m1, .ref m2, .int (nI bk), .ref m3, .ref m4, .ref m5, .ref m6, .int sd, .ref m7, .ref m8, .int cl, .int pc, .int op])), (m1, .inl (km1, 93, .inl nw)), (m7, .inl (km7, 1525, .inl vl_2)), (m8, .inl (km8, 24, .inl plv))] H → va_D A [(m0, .inr (4, [.ref m1, .ref m2, .int (nI bk), .ref m3, .ref m4, .ref m5, .ref m6, .int sd, .ref m7, .ref m8, .int cl, .int pc, .int op])), (m1, .inl (km1, 93, .inl nw)), (m7, .inl (km7, 1525, .inl vl_2)), (m8, .inl (km8, 24, .inl plv))] → va_S A s.heap H locs → lv_has ls 5 [(0, .ref m0), (1, .int (nI y)), (2, .int (nI i)), (3, .int (mp_po nw pc op (nI i)))] → W p l e (headSpec wsX4_isPlanned { frames := 7, cells := 0, slots := 0, locals := 162 }).room s m args below meth c H locs 0 0 Q (F0 m 60 ls [.int (nI ma)]) := by
            intro ma H locs ls hJ60_0 hP hD hS hl
            refine lv_istore (lv' := [(4, .int (nI ma)), (0, .ref m0), (1, .int (nI y)), (2, .int (nI i)), (3, .int (mp_po nw pc op (nI i)))]) hx hb dX4_isPlanned_60 hl (by decide) rfl (fun ls hl => ?_)
            refine lv_iload_n hx hb dX4_isPlanned_62 rfl (lv_at hl 3 rfl) ?_
            refine lv_aload_n hx hb dX4_isPlanned_63 rfl (lv_at hl 1 rfl) ?_
            refine va_get (D := (dC, dI)) (ci := 4) (v := .int cl) (C := RX4) (T := TX4) (N := 13) hx hb hts inX4 hown hK hP 0 rfl rfl 10 (by decide) (hts (.fieldLink RX4 35 "StoreSlopesModel" "closed" "I") (List.mem_of_getElem? (i := 3) rfl)) (fun _ h9 => h9) rfl dX4_isPlanned_64 ?_
            have J76 : ∀ (mb : Nat) (H : Heap) (locs : List Loc) (ls : Array Slot), mb = y - mp_dn nw cl i → va_P (dC, dI) vwCl [(m0, .inr (4, [.ref m1, .ref m2, .int (nI bk), .ref m3, .ref m4, .ref m5, .ref m6, .int sd, .ref m7, .ref m8, .int cl, .int pc, .int op])), (m1, .inl (km1, 93, .inl nw)), (m7, .inl (km7, 1525, .inl vl_2)), (m8, .inl (km8, 24, .inl plv))] H → va_D A [(m0, .inr (4, [.ref m1, .ref m2, .int (nI bk), .ref m3, .ref m4, .ref m5, .ref m6, .int sd, .ref m7, .ref m8, .int cl, .int pc, .int op])), (m1, .inl (km1, 93, .inl nw)), (m7, .inl (km7, 1525, .inl vl_2)), (m8, .inl (km8, 24, .inl plv))] → va_S A s.heap H locs → lv_has ls 5 [(0, .ref m0), (1, .int (nI y)), (2, .int (nI i)), (3, .int (mp_po nw pc op (nI i)))] → W p l e (headSpec wsX4_isPlanned { frames := 7, cells := 0, slots := 0, locals := 162 }).room s m args below meth c H locs 0 0 Q (F0 m 76 ls [.int (nI mb)]) := by
              intro mb H locs ls hJ76_0 hP hD hS hl
              refine lv_istore (lv' := [(4, .int (nI mb)), (0, .ref m0), (1, .int (nI y)), (2, .int (nI i)), (3, .int (mp_po nw pc op (nI i)))]) hx hb dX4_isPlanned_76 hl (by decide) rfl (fun ls hl => ?_)
              have L78 : ∀ (n : Nat) (m_ : Nat) (H : Heap) (locs : List Loc) (ls : Array Slot), fiOK nw (mp_po nw pc op (nI i)) vl_2 i y m_ → 61 - m_ < n → va_P (dC, dI) vwCl [(m0, .inr (4, [.ref m1, .ref m2, .int (nI bk), .ref m3, .ref m4, .ref m5, .ref m6, .int sd, .ref m7, .ref m8, .int cl, .int pc, .int op])), (m1, .inl (km1, 93, .inl nw)), (m7, .inl (km7, 1525, .inl vl_2)), (m8, .inl (km8, 24, .inl plv))] H → va_D A [(m0, .inr (4, [.ref m1, .ref m2, .int (nI bk), .ref m3, .ref m4, .ref m5, .ref m6, .int sd, .ref m7, .ref m8, .int cl, .int pc, .int op])), (m1, .inl (km1, 93, .inl nw)), (m7, .inl (km7, 1525, .inl vl_2)), (m8, .inl (km8, 24, .inl plv))] → va_S A s.heap H locs → lv_has ls 5 [(0, .ref m0), (1, .int (nI y)), (2, .int (nI i)), (3, .int (mp_po nw pc op (nI i))), (4, .int (nI m_))] → W p l e (headSpec wsX4_isPlanned { frames := 7, cells := 0, slots := 0, locals := 162 }).room s m args below meth c H locs 0 0 Q (F0 m 78 ls []) := by
                intro n
                induction n with
                | zero => intro m_ H locs ls hL78_0 hn; exact absurd hn (Nat.not_lt_zero _)
                | succ n ih78 =>
                  intro m_ H locs ls hL78_0 hn hP hD hS hl
                  have hm60 := fi_le hL78_0
                  refine lv_aload_n hx hb dX4_isPlanned_78 rfl (lv_at hl 0 rfl) ?_
                  refine va_get (D := (dC, dI)) (ci := 4) (v := .ref m7) (C := RX4) (T := TX4) (N := 13) hx hb hts inX4 hown hK hP 0 rfl rfl 8 (by decide) (hts (.fieldLink RX4 29 "StoreSlopesModel" "value" "[I") (List.mem_of_getElem? (i := 4) rfl)) (fun _ h9 => h9) rfl dX4_isPlanned_79 ?_
                  refine lv_bipush (v := nI 61) hx hb dX4_isPlanned_82 (by decide) ?_
                  refine lv_iload_n hx hb dX4_isPlanned_84 rfl (lv_at hl 2 rfl) ?_
                  refine lv_iconst (v := nI 1) hx hb dX4_isPlanned_85 (by decide) ?_
                  refine lv_iadd hx hb dX4_isPlanned_86 ?_
                  refine tp_as (nI_add i 1) ?_
                  refine lv_imul hx hb dX4_isPlanned_87 ?_
                  refine tp_as (pk_mul 61 (i + 1)) ?_
                  refine lv_iload hx hb dX4_isPlanned_88 (lv_at hl 4 rfl) ?_
                  refine lv_iadd hx hb dX4_isPlanned_90 ?_
                  refine tp_as (nI_add (61 * (i + 1)) m_) ?_
                  refine va_iald hx hb hK hP 2 1 rfl rfl (vp_in_nI (show (61 * (i + 1)) + m_ < 1525 by omega) (by omega)) dX4_isPlanned_91 ?_
                  refine tp_as (cl_at (by omega)) ?_
                  refine lv_ldc (own := RX4) (v := (-500000000)) hx hb hown (hts (.constant RX4 67 (-500000000)) (List.mem_of_getElem? (i := 1) rfl)) dX4_isPlanned_92 ?_
                  refine lv_icmp_eq (tgt := 134) hx hb dX4_isPlanned_94 (by decide) (fun c_94 => ?_) (fun c_94 => ?_)
                  · refine lv_iinc (v := nI (m_ + 1)) (lv' := [(4, .int (nI (m_ + 1))), (0, .ref m0), (1, .int (nI y)), (2, .int (nI i)), (3, .int (mp_po nw pc op (nI i)))]) hx hb dX4_isPlanned_134 hl (k := 4) rfl (inc_n m_ 1) (by decide) rfl (fun ls hl => ?_)
                    refine lv_goto (tgt := 78) hx hb dX4_isPlanned_137 (by decide) ?_
                    exact ih78 (m_ + 1) _ _ _ (fi_no hL78_0 (by first | exact Or.inl c_94 | exact Or.inr c_131)) (by omega) hP hD hS (lv_sub hl [1, 2, 3, 4, 0] rfl)
                  · refine lv_aload_n hx hb dX4_isPlanned_97 rfl (lv_at hl 0 rfl) ?_
                    refine va_get (D := (dC, dI)) (ci := 4) (v := .ref m7) (C := RX4) (T := TX4) (N := 13) hx hb hts inX4 hown hK hP 0 rfl rfl 8 (by decide) (hts (.fieldLink RX4 29 "StoreSlopesModel" "value" "[I") (List.mem_of_getElem? (i := 4) rfl)) (fun _ h9 => h9) rfl dX4_isPlanned_98 ?_
                    refine lv_bipush (v := nI 61) hx hb dX4_isPlanned_101 (by decide) ?_
                    refine lv_iload_n hx hb dX4_isPlanned_103 rfl (lv_at hl 2 rfl) ?_
                    refine lv_iconst (v := nI 1) hx hb dX4_isPlanned_104 (by decide) ?_
                    refine lv_iadd hx hb dX4_isPlanned_105 ?_
                    refine tp_as (nI_add i 1) ?_
                    refine lv_imul hx hb dX4_isPlanned_106 ?_
                    refine tp_as (pk_mul 61 (i + 1)) ?_
                    refine lv_iload hx hb dX4_isPlanned_107 (lv_at hl 4 rfl) ?_
                    refine lv_iadd hx hb dX4_isPlanned_109 ?_
                    refine tp_as (nI_add (61 * (i + 1)) m_) ?_
                    refine va_iald hx hb hK hP 2 1 rfl rfl (vp_in_nI (show (61 * (i + 1)) + m_ < 1525 by omega) (by omega)) dX4_isPlanned_110 ?_
                    refine tp_as (cl_at (by omega)) ?_
                    refine lv_aload_n hx hb dX4_isPlanned_111 rfl (lv_at hl 0 rfl) ?_
                    refine lv_iload_n hx hb dX4_isPlanned_112 rfl (lv_at hl 3 rfl) ?_
                    refine lv_iload_n hx hb dX4_isPlanned_113 rfl (lv_at hl 1 rfl) ?_
                    refine lv_iload hx hb dX4_isPlanned_114 (lv_at hl 4 rfl) ?_
                    have hPc := hP.sub (ws' := [(m0, .inr (4, [.ref m1, .ref m2, .int (nI bk), .ref m3, .ref m4, .ref m5, .ref m6, .int sd, .ref m7, .ref m8, .int cl, .int pc, .int op])), (m1, .inl (km1, 93, .inl nw))]) [0, 1] rfl
                    have hKc := hK.sub (tys' := [(km1, .int)]) [0] rfl
                    refine va_calli (va_runV (As := [.int (mp_po nw pc op (nI i)), .int (nI y), .int (nI m_)]) (rest := [.int (vl_2 ((61 * (i + 1)) + m_))]) ⟨hx, hb, hml, hown, hts⟩ (c_X4_brings l dC dI m0 m1 m2 m3 m4 m5 m6 m7 m8 km1 bk sd cl pc op nw (mp_po nw pc op (nI i)) (nI y) (nI m_) (by first | assumption | omega) (by first | assumption | omega) ) (cwV 3 hts gX4_isPlanned_X4_brings rfl rfl rfl (by decide +kernel) ⟨Nat.le_of_ble_eq_true rfl, Nat.le_of_ble_eq_true rfl⟩) ⟨fun a U g mk q => by obtain ⟨q0, qP, qK⟩ := q; exact ⟨q0, qP, va_K.moved (u := U) (U := U.calling g mk a) (Vm.Alike.refl U.vm) qK⟩, va_recv hKc hPc (ci := 4) (q0 := 0) rfl rfl, fun U hU hW => ⟨rfl, by rw [hU]; exact hPc, va_K.moved hW.alike hKc⟩⟩ rfl rfl hl.1 rfl (lv_room (Nat.le_of_ble_eq_true rfl)) dX4_isPlanned_116 ⟨Nat.le_of_ble_eq_true rfl, Nat.le_of_ble_eq_true rfl⟩) hS (fun q _ h => h.elim) (fun q h => h.elim) (fun r_7 u9 t9 H1 locs ht hvm hw hB hz1 hk1 hS => ?_)
                    refine W.widen (k := 0) (n := 0) (Nat.le_of_ble_eq_true rfl) (Nat.le_of_ble_eq_true rfl) ?_
                    have hP := hP.kept (H1 := H1) (fun k q hk => hk1 q.1 (hP k q hk).lt (fun h => h))
                    clear hz1 hk1 hB ht hvm t9
                    generalize H1 = H at hP hS ⊢
                    have hP : va_P (dC, dI) vwCl [(m0, .inr (4, [.ref m1, .ref m2, .int (nI bk), .ref m3, .ref m4, .ref m5, .ref m6, .int sd, .ref m7, .ref m8, .int cl, .int pc, .int op])), (m1, .inl (km1, 93, .inl nw)), (m7, .inl (km7, 1525, .inl vl_2)), (m8, .inl (km8, 24, .inl plv))] H := hP
                    subst hw
                    refine lv_iadd hx hb dX4_isPlanned_119 ?_
                    refine lv_aload_n hx hb dX4_isPlanned_120 rfl (lv_at hl 0 rfl) ?_
                    refine va_get (D := (dC, dI)) (ci := 4) (v := .ref m7) (C := RX4) (T := TX4) (N := 13) hx hb hts inX4 hown hK hP 0 rfl rfl 8 (by decide) (hts (.fieldLink RX4 29 "StoreSlopesModel" "value" "[I") (List.mem_of_getElem? (i := 4) rfl)) (fun _ h9 => h9) rfl dX4_isPlanned_121 ?_
                    refine lv_bipush (v := nI 61) hx hb dX4_isPlanned_124 (by decide) ?_
                    refine lv_iload_n hx hb dX4_isPlanned_126 rfl (lv_at hl 2 rfl) ?_
                    refine lv_imul hx hb dX4_isPlanned_127 ?_
                    refine tp_as (pk_mul 61 i) ?_
                    refine lv_iload_n hx hb dX4_isPlanned_128 rfl (lv_at hl 1 rfl) ?_
                    refine lv_iadd hx hb dX4_isPlanned_129 ?_
                    refine tp_as (nI_add (61 * i) y) ?_
                    refine va_iald hx hb hK hP 2 1 rfl rfl (vp_in_nI (show 61 * i + y < 1525 by omega) (by omega)) dX4_isPlanned_130 ?_
                    refine tp_as (cl_at (by omega)) ?_
                    refine lv_icmp_eq (tgt := 140) hx hb dX4_isPlanned_131 (by decide) (fun c_131 => ?_) (fun c_131 => ?_)
                    · refine lv_aload_n hx hb dX4_isPlanned_140 rfl (lv_at hl 0 rfl) ?_
                      refine va_get (D := (dC, dI)) (ci := 4) (v := .ref m8) (C := RX4) (T := TX4) (N := 13) hx hb hts inX4 hown hK hP 0 rfl rfl 9 (by decide) (hts (.fieldLink RX4 32 "StoreSlopesModel" "plan" "[I") (List.mem_of_getElem? (i := 5) rfl)) (fun _ h9 => h9) rfl dX4_isPlanned_141 ?_
                      refine lv_iload_n hx hb dX4_isPlanned_144 rfl (lv_at hl 2 rfl) ?_
                      refine lv_iload hx hb dX4_isPlanned_145 (lv_at hl 4 rfl) ?_
                      refine va_iast hx hb hK hP hD hS 3 2 rfl rfl (vp_in_nI (show i < 24 by omega) (by omega)) dX4_isPlanned_147 (fun H locs hP hD hS => ?_)
                      have hP : va_P (dC, dI) vwCl [(m0, .inr (4, [.ref m1, .ref m2, .int (nI bk), .ref m3, .ref m4, .ref m5, .ref m6, .int sd, .ref m7, .ref m8, .int cl, .int pc, .int op])), (m1, .inl (km1, 93, .inl nw)), (m7, .inl (km7, 1525, .inl vl_2)), (m8, .inl (km8, 24, .inl (upd plv (nI i).toNatClampNeg (nI m_))))] H := hP
                      have hD : va_D A [(m0, .inr (4, [.ref m1, .ref m2, .int (nI bk), .ref m3, .ref m4, .ref m5, .ref m6, .int sd, .ref m7, .ref m8, .int cl, .int pc, .int op])), (m1, .inl (km1, 93, .inl nw)), (m7, .inl (km7, 1525, .inl vl_2)), (m8, .inl (km8, 24, .inl (upd plv (nI i).toNatClampNeg (nI m_))))] := hD
                      generalize ef_8 : upd plv (nI i).toNatClampNeg (nI m_) = f_8 at hP hD
                      have bf_8 : bdA 60 24 f_8 := bdA_upd (by assumption) ef_8 (by omega) (by omega)
                      clear ef_8
                      refine lv_iload hx hb dX4_isPlanned_148 (lv_at hl 4 rfl) ?_
                      refine lv_istore_n (lv' := [(1, .int (nI m_)), (0, .ref m0), (2, .int (nI i)), (3, .int (mp_po nw pc op (nI i))), (4, .int (nI m_))]) hx hb dX4_isPlanned_150 rfl hl (by decide) rfl (fun ls hl => ?_)
                      refine lv_iinc (v := nI (i + 1)) (lv' := [(2, .int (nI (i + 1))), (1, .int (nI m_)), (0, .ref m0), (3, .int (mp_po nw pc op (nI i))), (4, .int (nI m_))]) hx hb dX4_isPlanned_151 hl (k := 2) rfl (inc_n i 1) (by decide) rfl (fun ls hl => ?_)
                      refine lv_goto (tgt := 25) hx hb dX4_isPlanned_154 (by decide) ?_
                      exact ih25 (i + 1) m_ f_8 _ _ _ (by first | assumption | omega) (by first | assumption | omega) (by first | assumption | omega) (by first | assumption | omega) (by omega) hP hD hS (lv_sub hl [2, 1, 0] rfl)
                    · refine lv_iinc (v := nI (m_ + 1)) (lv' := [(4, .int (nI (m_ + 1))), (0, .ref m0), (1, .int (nI y)), (2, .int (nI i)), (3, .int (mp_po nw pc op (nI i)))]) hx hb dX4_isPlanned_134 hl (k := 4) rfl (inc_n m_ 1) (by decide) rfl (fun ls hl => ?_)
                      refine lv_goto (tgt := 78) hx hb dX4_isPlanned_137 (by decide) ?_
                      exact ih78 (m_ + 1) _ _ _ (fi_no hL78_0 (by first | exact Or.inl c_94 | exact Or.inr c_131)) (by omega) hP hD hS (lv_sub hl [1, 2, 3, 4, 0] rfl)
              exact L78 (61 - mb + 1) mb _ _ _ (fi_0 h_3 (by omega) (by omega) (by assumption) (by assumption)) (Nat.lt_succ_self _) hP hD hS (lv_sub hl [1, 2, 3, 4, 0] rfl)
            refine lv_icmp_ne (tgt := 74) hx hb dX4_isPlanned_67 (by decide) (fun c_67 => ?_) (fun c_67 => ?_)
            · refine lv_iload hx hb dX4_isPlanned_74 (lv_at hl 0 rfl) ?_
              exact J76 ma _ _ _ (by first | (rw [dn_1 c_67]; omega) | (rw [dn_2 c_67 egv (by omega)]; omega)) hP hD hS (lv_sub hl [1, 2, 3, 4] rfl)
            · refine lv_iload_n hx hb dX4_isPlanned_70 rfl (lv_at hl 2 rfl) ?_
              refine lv_goto (tgt := 76) hx hb dX4_isPlanned_71 (by decide) ?_
              exact J76 y _ _ _ (by first | (rw [dn_1 c_67]; omega) | (rw [dn_2 c_67 egv (by omega)]; omega)) hP hD hS (lv_sub hl [1, 2, 3, 4] rfl)
          refine lv_if_ge (tgt := 52) hx hb dX4_isPlanned_45 (by decide) (fun c_45 => ?_) (fun c_45 => ?_)
          · have c_45 := (sb_ge (a := y) (b := gv) (by omega) (by omega)).mp c_45
            refine lv_iload_n hx hb dX4_isPlanned_52 rfl (lv_at hl 2 rfl) ?_
            refine lv_aload_n hx hb dX4_isPlanned_53 rfl (lv_at hl 1 rfl) ?_
            refine va_get (D := (dC, dI)) (ci := 4) (v := .ref m1) (C := RX4) (T := TX4) (N := 13) hx hb hts inX4 hown hK hP 0 rfl rfl 0 (by decide) (hts (.fieldLink RX4 7 "StoreSlopesModel" "now" "[I") (List.mem_of_getElem? (i := 2) rfl)) (fun _ h9 => h9) rfl dX4_isPlanned_54 ?_
            refine lv_iconst (v := nI 3) hx hb dX4_isPlanned_57 (by decide) ?_
            refine va_iald hx hb hK hP 1 0 rfl rfl (vp_in_nI (show 3 < 93 by omega) (by omega)) dX4_isPlanned_58 ?_
            refine tp_as (cl_as (by omega) egv) ?_
            refine lv_isub hx hb dX4_isPlanned_59 ?_
            refine tp_as (pk_sub (a := y) (b := gv) (by omega)) ?_
            exact J60 (y - gv) _ _ _ (by first | assumption | omega) hP hD hS (lv_sub hl [1, 2, 3, 0] rfl)
          · have c_45 := (not_congr (sb_ge (a := y) (b := gv) (by omega) (by omega))).mp c_45
            refine lv_iconst (v := nI 0) hx hb dX4_isPlanned_48 (by decide) ?_
            refine lv_goto (tgt := 60) hx hb dX4_isPlanned_49 (by decide) ?_
            exact J60 0 _ _ _ (by first | assumption | omega) hP hD hS (lv_sub hl [1, 2, 3, 0] rfl)
    exact L25 (24 - ov + 1) ov st pl _ _ _ (by first | assumption | omega) (by first | assumption | omega) (by first | assumption | omega) (by first | assumption | omega) (Nat.lt_succ_self _) hP hD hS (lv_sub hl [2, 1, 0] rfl)
  · refine lv_iconst (v := nI 0) hx hb dX4_isPlanned_9 (by decide) ?_
    subst hQe
    have hP9 := hP.sub (ws' := [(m0, .inr (4, [.ref m1, .ref m2, .int (nI bk), .ref m3, .ref m4, .ref m5, .ref m6, .int sd, .ref m7, .ref m8, .int cl, .int pc, .int op])), (m1, .inl (km1, 93, .inl nw)), (m7, .inl (km7, 1525, .inl vl_2)), (m8, .inl (km8, 24, .inl pl))]) [0, 1, 2, 3] rfl
    have hD9 := hD.sub (ws' := [(m0, .inr (4, [.ref m1, .ref m2, .int (nI bk), .ref m3, .ref m4, .ref m5, .ref m6, .int sd, .ref m7, .ref m8, .int cl, .int pc, .int op])), (m1, .inl (km1, 93, .inl nw)), (m7, .inl (km7, 1525, .inl vl_2)), (m8, .inl (km8, 24, .inl pl))]) [0, 1, 2, 3] (by decide) rfl
    have hK9 := hK.sub (tys' := [(km1, .int), (km7, .int), (km8, .int)]) [0, 1, 2] rfl
    subst hAe
    exact W.zret (v := (nI 0)) hx hb hr (by decide) (fun t ht hW => ⟨⟨_, _, rfl, rfl, vl_2, pl, (by first | assumption | omega), by rw [ht]; exact hP9, va_K.moved hW.alike hK9, hD9⟩, hS.F ht⟩) hS.2.2 dX4_isPlanned_10
