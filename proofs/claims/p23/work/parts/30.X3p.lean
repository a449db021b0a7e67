set_option maxHeartbeats 4000000 in
set_option maxRecDepth 100000 in
theorem c_X3_isOutside (l : Launch) (dC : Nat → ClassId) (dI : Nat → Nat → Nat) (v : Int32) (lo : Int32) (hi : Int32) : Met l yX3_isOutside wsX3_isOutside ({ frames := 0, cells := 0, slots := 0, locals := 0 }) (va_Pc [.int v, .int lo, .int hi] (fun _ => True)) (va_Qi (fun r (_ : Unit) => (r = 0 ∧ (¬ v < lo ∧ ¬ hi < v)) ∨ (r = 1 ∧ True)) (fun _ _ => True) (fun _ => False)) 0 0 (fun _ => False) := by
  refine Met.ofW (cc := cX3_isOutside) (maxL := 3) (ret := (some .boolean)) (by decide) rfl ?_
  intro p e s m args below meth c s₁ B hml hv
  obtain ⟨rfl, -⟩ := hv
  have hx := B.exec
  have hb := B.bytes
  have hr := B.returns
  have hts := atoms_spec (ws := wsX3_isOutside) B.pre
  have hown : s.vm.findClass RX3 = some m.cls := findClass_of_methodNamed B.named
  have hlocks := B.notSynchronized
  have hS : va_S (fun _ => False) s.heap s.heap [] := va_S.rf
  have hl := lv_entry ([.int v, .int lo, .int hi]) (n := 3) (Nat.le_of_ble_eq_true rfl)
  rw [lg_entry_eq]
  generalize (lg_sl ([.int v, .int lo, .int hi]) ++ List.replicate (3 - (lg_sl ([.int v, .int lo, .int hi])).length) Slot.unset).toArray = ls at hl ⊢
  generalize hQe : MQ below _ _ s 0 0 _ = Q
  generalize ([.int v, .int lo, .int hi] : List Value).toArray = args at hts hQe ⊢
  have hl : lv_has ls 3 [(0, .int v), (1, .int lo), (2, .int hi)] := hl
  refine lv_iload_n hx hb dX3_isOutside_0 rfl (lv_at hl 0 rfl) ?_
  refine lv_iload_n hx hb dX3_isOutside_1 rfl (lv_at hl 1 rfl) ?_
  refine lv_icmp_lt (tgt := 10) hx hb dX3_isOutside_2 (by decide) (fun c_2 => ?_) (fun c_2 => ?_)
  · refine lv_iconst (v := nI 1) hx hb dX3_isOutside_10 (by decide) ?_
    refine lv_goto (tgt := 15) hx hb dX3_isOutside_11 (by decide) ?_
    subst hQe
    exact W.zret (v := (nI 1)) hx hb hr (by decide) (fun t ht hW => ⟨⟨_, (), rfl, Or.inr ⟨rfl, trivial⟩, trivial⟩, hS.F ht⟩) hS.2.2 dX3_isOutside_15
  · refine lv_iload_n hx hb dX3_isOutside_5 rfl (lv_at hl 0 rfl) ?_
    refine lv_iload_n hx hb dX3_isOutside_6 rfl (lv_at hl 2 rfl) ?_
    refine lv_icmp_le (tgt := 14) hx hb dX3_isOutside_7 (by decide) (fun c_7 => ?_) (fun c_7 => ?_)
    · refine lv_iconst (v := nI 0) hx hb dX3_isOutside_14 (by decide) ?_
      subst hQe
      exact W.zret (v := (nI 0)) hx hb hr (by decide) (fun t ht hW => ⟨⟨_, (), rfl, Or.inl ⟨rfl, c_2, (by rw [Int32.not_lt]; exact c_7)⟩, trivial⟩, hS.F ht⟩) hS.2.2 dX3_isOutside_15
    · refine lv_iconst (v := nI 1) hx hb dX3_isOutside_10 (by decide) ?_
      refine lv_goto (tgt := 15) hx hb dX3_isOutside_11 (by decide) ?_
      subst hQe
      exact W.zret (v := (nI 1)) hx hb hr (by decide) (fun t ht hW => ⟨⟨_, (), rfl, Or.inr ⟨rfl, trivial⟩, trivial⟩, hS.F ht⟩) hS.2.2 dX3_isOutside_15
set_option maxHeartbeats 4000000 in
set_option maxRecDepth 100000 in
theorem c_X3_isHour (l : Launch) (dC : Nat → ClassId) (dI : Nat → Nat → Nat) (i : Int32) : Met l yX3_isHour wsX3_isHour ({ frames := 0, cells := 0, slots := 0, locals := 0 }) (va_Pc [.int i] (fun _ => True)) (va_Qi (fun r (_ : Unit) => (r = 0 ∧ ¬ ∃ j : Nat, j < 24 ∧ i = nI j) ∨ (r = 1 ∧ ∃ j : Nat, j < 24 ∧ i = nI j)) (fun _ _ => True) (fun _ => False)) 0 0 (fun _ => False) := by
  refine Met.ofW (cc := cX3_isHour) (maxL := 1) (ret := (some .boolean)) (by decide) rfl ?_
  intro p e s m args below meth c s₁ B hml hv
  obtain ⟨rfl, -⟩ := hv
  have hx := B.exec
  have hb := B.bytes
  have hr := B.returns
  have hts := atoms_spec (ws := wsX3_isHour) B.pre
  have hown : s.vm.findClass RX3 = some m.cls := findClass_of_methodNamed B.named
  have hlocks := B.notSynchronized
  have hS : va_S (fun _ => False) s.heap s.heap [] := va_S.rf
  have hl := lv_entry ([.int i]) (n := 1) (Nat.le_of_ble_eq_true rfl)
  rw [lg_entry_eq]
  generalize (lg_sl ([.int i]) ++ List.replicate (1 - (lg_sl ([.int i])).length) Slot.unset).toArray = ls at hl ⊢
  generalize hQe : MQ below _ _ s 0 0 _ = Q
  generalize ([.int i] : List Value).toArray = args at hts hQe ⊢
  have hl : lv_has ls 1 [(0, .int i)] := hl
  refine lv_iload_n hx hb dX3_isHour_0 rfl (lv_at hl 0 rfl) ?_
  refine lv_if_lt (tgt := 14) hx hb dX3_isHour_1 (by decide) (fun c_1 => ?_) (fun c_1 => ?_)
  · refine lv_iconst (v := nI 0) hx hb dX3_isHour_14 (by decide) ?_
    subst hQe
    exact W.zret (v := (nI 0)) hx hb hr (by decide) (fun t ht hW => ⟨⟨_, (), rfl, Or.inl ⟨rfl, idx_no_isHour (by first | exact Or.inl c_1 | exact Or.inr c_7)⟩, trivial⟩, hS.F ht⟩) hS.2.2 dX3_isHour_15
  · refine lv_iload_n hx hb dX3_isHour_4 rfl (lv_at hl 0 rfl) ?_
    refine lv_bipush (v := nI 24) hx hb dX3_isHour_5 (by decide) ?_
    refine lv_icmp_ge (tgt := 14) hx hb dX3_isHour_7 (by decide) (fun c_7 => ?_) (fun c_7 => ?_)
    · refine lv_iconst (v := nI 0) hx hb dX3_isHour_14 (by decide) ?_
      subst hQe
      exact W.zret (v := (nI 0)) hx hb hr (by decide) (fun t ht hW => ⟨⟨_, (), rfl, Or.inl ⟨rfl, idx_no_isHour (by first | exact Or.inl c_1 | exact Or.inr c_7)⟩, trivial⟩, hS.F ht⟩) hS.2.2 dX3_isHour_15
    · refine lv_iconst (v := nI 1) hx hb dX3_isHour_10 (by decide) ?_
      refine lv_goto (tgt := 15) hx hb dX3_isHour_11 (by decide) ?_
      subst hQe
      exact W.zret (v := (nI 1)) hx hb hr (by decide) (fun t ht hW => ⟨⟨_, (), rfl, Or.inr ⟨rfl, x_lt (by decide) c_1 c_7⟩, trivial⟩, hS.F ht⟩) hS.2.2 dX3_isHour_15
set_option maxHeartbeats 4000000 in
set_option maxRecDepth 100000 in
theorem c_X3_isHourOrEnd (l : Launch) (dC : Nat → ClassId) (dI : Nat → Nat → Nat) (i : Int32) : Met l yX3_isHourOrEnd wsX3_isHourOrEnd ({ frames := 0, cells := 0, slots := 0, locals := 0 }) (va_Pc [.int i] (fun _ => True)) (va_Qi (fun r (_ : Unit) => (r = 0 ∧ ¬ ∃ j : Nat, j ≤ 24 ∧ i = nI j) ∨ (r = 1 ∧ ∃ j : Nat, j ≤ 24 ∧ i = nI j)) (fun _ _ => True) (fun _ => False)) 0 0 (fun _ => False) := by
  refine Met.ofW (cc := cX3_isHourOrEnd) (maxL := 1) (ret := (some .boolean)) (by decide) rfl ?_
  intro p e s m args below meth c s₁ B hml hv
  obtain ⟨rfl, -⟩ := hv
  have hx := B.exec
  have hb := B.bytes
  have hr := B.returns
  have hts := atoms_spec (ws := wsX3_isHourOrEnd) B.pre
  have hown : s.vm.findClass RX3 = some m.cls := findClass_of_methodNamed B.named
  have hlocks := B.notSynchronized
  have hS : va_S (fun _ => False) s.heap s.heap [] := va_S.rf
  have hl := lv_entry ([.int i]) (n := 1) (Nat.le_of_ble_eq_true rfl)
  rw [lg_entry_eq]
  generalize (lg_sl ([.int i]) ++ List.replicate (1 - (lg_sl ([.int i])).length) Slot.unset).toArray = ls at hl ⊢
  generalize hQe : MQ below _ _ s 0 0 _ = Q
  generalize ([.int i] : List Value).toArray = args at hts hQe ⊢
  have hl : lv_has ls 1 [(0, .int i)] := hl
  refine lv_iload_n hx hb dX3_isHourOrEnd_0 rfl (lv_at hl 0 rfl) ?_
  refine lv_if_lt (tgt := 14) hx hb dX3_isHourOrEnd_1 (by decide) (fun c_1 => ?_) (fun c_1 => ?_)
  · refine lv_iconst (v := nI 0) hx hb dX3_isHourOrEnd_14 (by decide) ?_
    subst hQe
    exact W.zret (v := (nI 0)) hx hb hr (by decide) (fun t ht hW => ⟨⟨_, (), rfl, Or.inl ⟨rfl, idx_no_isHourOrEnd (by first | exact Or.inl c_1 | exact Or.inr c_7)⟩, trivial⟩, hS.F ht⟩) hS.2.2 dX3_isHourOrEnd_15
  · refine lv_iload_n hx hb dX3_isHourOrEnd_4 rfl (lv_at hl 0 rfl) ?_
    refine lv_bipush (v := nI 24) hx hb dX3_isHourOrEnd_5 (by decide) ?_
    refine lv_icmp_gt (tgt := 14) hx hb dX3_isHourOrEnd_7 (by decide) (fun c_7 => ?_) (fun c_7 => ?_)
    · refine lv_iconst (v := nI 0) hx hb dX3_isHourOrEnd_14 (by decide) ?_
      subst hQe
      exact W.zret (v := (nI 0)) hx hb hr (by decide) (fun t ht hW => ⟨⟨_, (), rfl, Or.inl ⟨rfl, idx_no_isHourOrEnd (by first | exact Or.inl c_1 | exact Or.inr c_7)⟩, trivial⟩, hS.F ht⟩) hS.2.2 dX3_isHourOrEnd_15
    · refine lv_iconst (v := nI 1) hx hb dX3_isHourOrEnd_10 (by decide) ?_
      refine lv_goto (tgt := 15) hx hb dX3_isHourOrEnd_11 (by decide) ?_
      subst hQe
      exact W.zret (v := (nI 1)) hx hb hr (by decide) (fun t ht hW => ⟨⟨_, (), rfl, Or.inr ⟨rfl, x_le (by decide) c_1 c_7⟩, trivial⟩, hS.F ht⟩) hS.2.2 dX3_isHourOrEnd_15
set_option maxHeartbeats 4000000 in
set_option maxRecDepth 100000 in
theorem c_X3_isImage (l : Launch) (dC : Nat → ClassId) (dI : Nat → Nat → Nat) (i : Int32) : Met l yX3_isImage wsX3_isImage ({ frames := 0, cells := 0, slots := 0, locals := 0 }) (va_Pc [.int i] (fun _ => True)) (va_Qi (fun r (_ : Unit) => (r = 0 ∧ ¬ ∃ j : Nat, j < 2 ∧ i = nI j) ∨ (r = 1 ∧ ∃ j : Nat, j < 2 ∧ i = nI j)) (fun _ _ => True) (fun _ => False)) 0 0 (fun _ => False) := by
  refine Met.ofW (cc := cX3_isImage) (maxL := 1) (ret := (some .boolean)) (by decide) rfl ?_
  intro p e s m args below meth c s₁ B hml hv
  obtain ⟨rfl, -⟩ := hv
  have hx := B.exec
  have hb := B.bytes
  have hr := B.returns
  have hts := atoms_spec (ws := wsX3_isImage) B.pre
  have hown : s.vm.findClass RX3 = some m.cls := findClass_of_methodNamed B.named
  have hlocks := B.notSynchronized
  have hS : va_S (fun _ => False) s.heap s.heap [] := va_S.rf
  have hl := lv_entry ([.int i]) (n := 1) (Nat.le_of_ble_eq_true rfl)
  rw [lg_entry_eq]
  generalize (lg_sl ([.int i]) ++ List.replicate (1 - (lg_sl ([.int i])).length) Slot.unset).toArray = ls at hl ⊢
  generalize hQe : MQ below _ _ s 0 0 _ = Q
  generalize ([.int i] : List Value).toArray = args at hts hQe ⊢
  have hl : lv_has ls 1 [(0, .int i)] := hl
  refine lv_iload_n hx hb dX3_isImage_0 rfl (lv_at hl 0 rfl) ?_
  refine lv_if_lt (tgt := 13) hx hb dX3_isImage_1 (by decide) (fun c_1 => ?_) (fun c_1 => ?_)
  · refine lv_iconst (v := nI 0) hx hb dX3_isImage_13 (by decide) ?_
    subst hQe
    exact W.zret (v := (nI 0)) hx hb hr (by decide) (fun t ht hW => ⟨⟨_, (), rfl, Or.inl ⟨rfl, idx_no_isImage (by first | exact Or.inl c_1 | exact Or.inr c_6)⟩, trivial⟩, hS.F ht⟩) hS.2.2 dX3_isImage_14
  · refine lv_iload_n hx hb dX3_isImage_4 rfl (lv_at hl 0 rfl) ?_
    refine lv_iconst (v := nI 2) hx hb dX3_isImage_5 (by decide) ?_
    refine lv_icmp_ge (tgt := 13) hx hb dX3_isImage_6 (by decide) (fun c_6 => ?_) (fun c_6 => ?_)
    · refine lv_iconst (v := nI 0) hx hb dX3_isImage_13 (by decide) ?_
      subst hQe
      exact W.zret (v := (nI 0)) hx hb hr (by decide) (fun t ht hW => ⟨⟨_, (), rfl, Or.inl ⟨rfl, idx_no_isImage (by first | exact Or.inl c_1 | exact Or.inr c_6)⟩, trivial⟩, hS.F ht⟩) hS.2.2 dX3_isImage_14
    · refine lv_iconst (v := nI 1) hx hb dX3_isImage_9 (by decide) ?_
      refine lv_goto (tgt := 14) hx hb dX3_isImage_10 (by decide) ?_
      subst hQe
      exact W.zret (v := (nI 1)) hx hb hr (by decide) (fun t ht hW => ⟨⟨_, (), rfl, Or.inr ⟨rfl, x_lt (by decide) c_1 c_6⟩, trivial⟩, hS.F ht⟩) hS.2.2 dX3_isImage_14
set_option maxHeartbeats 4000000 in
set_option maxRecDepth 100000 in
theorem c_J9_floorMod_7cf53 (l : Launch) (dC : Nat → ClassId) (dI : Nat → Nat → Nat) (x : Int32) (y : Nat) (g0 : 0 < y) (g1 : y < 2 ^ 31) : Met l yJ9_floorMod_7cf53 wsJ9_floorMod_7cf53 ({ frames := 0, cells := 0, slots := 0, locals := 0 }) (va_Pc [.int x, .int (nI y)] (fun _ => True)) (va_Qi (fun r (_ : Unit) => True) (fun _ _ => True) (fun _ => False)) 0 0 (fun _ => False) := by
  refine va_MetF (cc := cJ9_floorMod_7cf53) (maxL := 3) (ret := (some .int)) (by decide +kernel) rfl ?_
  intro p e s m args below meth c s₁ B hml hv
  obtain ⟨rfl, -⟩ := hv
  have hx := B.exec
  have hb := B.bytes
  have hr := B.returns
  have hts := atoms_spec (ws := wsJ9_floorMod_7cf53) B.pre
  have hown : s.vm.findClass RJ9 = some m.cls := findClass_of_methodNamed B.named
  have hlocks := B.notSynchronized
  have hS : va_S (fun _ => False) s.heap s.heap [] := va_S.rf
  have hl := lv_entry ([.int x, .int (nI y)]) (n := 3) (Nat.le_of_ble_eq_true rfl)
  rw [lg_entry_eq]
  generalize (lg_sl ([.int x, .int (nI y)]) ++ List.replicate (3 - (lg_sl ([.int x, .int (nI y)])).length) Slot.unset).toArray = ls at hl ⊢
  generalize hQe : MQ below _ _ s 0 0 _ = Q
  generalize ([.int x, .int (nI y)] : List Value).toArray = args at hts hQe ⊢
  have hl : lv_has ls 3 [(0, .int x), (1, .int (nI y))] := hl
  refine lv_iload_n hx hb dJ9_floorMod_7cf53_0 rfl (lv_at hl 0 rfl) ?_
  refine lv_iload_n hx hb dJ9_floorMod_7cf53_1 rfl (lv_at hl 1 rfl) ?_
  refine lv_irem hx hb dJ9_floorMod_7cf53_2 (nI_ne0 (by omega) (by omega)) ?_
  refine tp_any (fun y_1 => ?_)
  refine lv_istore_n (lv' := [(2, .int y_1), (0, .int x), (1, .int (nI y))]) hx hb dJ9_floorMod_7cf53_3 rfl hl (by decide) rfl (fun ls hl => ?_)
  refine lv_iload_n hx hb dJ9_floorMod_7cf53_4 rfl (lv_at hl 1 rfl) ?_
  refine lv_iload_n hx hb dJ9_floorMod_7cf53_5 rfl (lv_at hl 2 rfl) ?_
  refine lv_ixor hx hb dJ9_floorMod_7cf53_6 ?_
  refine tp_any (fun y_2 => ?_)
  refine lv_if_ge (tgt := 18) hx hb dJ9_floorMod_7cf53_7 (by decide) (fun c_7 => ?_) (fun c_7 => ?_)
  · refine lv_iload_n hx hb dJ9_floorMod_7cf53_18 rfl (lv_at hl 0 rfl) ?_
    subst hQe
    exact W.iret (v := y_1) hx hb hr (fun t ht hW => ⟨⟨_, (), rfl, trivial, trivial⟩, hS.F ht⟩) hS.2.2 dJ9_floorMod_7cf53_19
  · refine lv_iload_n hx hb dJ9_floorMod_7cf53_10 rfl (lv_at hl 0 rfl) ?_
    refine lv_if_eq (tgt := 18) hx hb dJ9_floorMod_7cf53_11 (by decide) (fun c_11 => ?_) (fun c_11 => ?_)
    · refine lv_iload_n hx hb dJ9_floorMod_7cf53_18 rfl (lv_at hl 0 rfl) ?_
      subst hQe
      exact W.iret (v := y_1) hx hb hr (fun t ht hW => ⟨⟨_, (), rfl, trivial, trivial⟩, hS.F ht⟩) hS.2.2 dJ9_floorMod_7cf53_19
    · refine lv_iload_n hx hb dJ9_floorMod_7cf53_14 rfl (lv_at hl 0 rfl) ?_
      refine lv_iload_n hx hb dJ9_floorMod_7cf53_15 rfl (lv_at hl 2 rfl) ?_
      refine lv_iadd hx hb dJ9_floorMod_7cf53_16 ?_
      refine tp_any (fun y_3 => ?_)
      subst hQe
      exact W.iret (v := y_3) hx hb hr (fun t ht hW => ⟨⟨_, (), rfl, trivial, trivial⟩, hS.F ht⟩) hS.2.2 dJ9_floorMod_7cf53_17
set_option maxHeartbeats 4000000 in
set_option maxRecDepth 100000 in
theorem c_X3_isLaw (l : Launch) (dC : Nat → ClassId) (dI : Nat → Nat → Nat) (x0 s0 s1 s2 ra rt rp rd ri rs rk : Nat) (ks1 ks2 : ClassId) (ld : Int32) (ud : Int32) (sd : Int32) (ov : Nat) (st : Nat) (tk : Nat) (gv : Nat) (hc : Int32) (ew : Int32) (sl : Int32) (ca : Int32) (lc : Nat) (rm : Nat → Int32) (lw : Nat → Int32) (i : Int32) (i0 : ov ≤ 24) (i1 : st ≤ 60) (i2 : tk ≤ 9) (i3 : gv ≤ 9) (i4 : lc ≤ 12) (i5 : bdA 60 24 rm) : Met l yX3_isLaw wsX3_isLaw ({ frames := 0, cells := 0, slots := 0, locals := 0 }) (va_Pc [.ref x0, .int i] (fun U => va_P (dC, dI) vwCl [(x0, .inr (3, [.ref s0, .ref ra, .ref rt, .ref rp, .ref rd, .ref ri, .ref rs, .ref rk, .int ld, .int ud, .int sd])), (s0, .inr (2, [.int (nI ov), .int (nI st), .int (nI tk), .int (nI gv), .int hc, .int ew, .int sl, .int ca, .int (nI lc), .ref s1, .ref s2])), (s1, .inl (ks1, 24, .inl rm)), (s2, .inl (ks2, 60, .inl lw))] U.heap ∧ va_K (dC, dI) vwCl [(ks1, .int), (ks2, .int)] U)) (va_Qi (fun r (_ : Unit) => (r = 0 ∧ True) ∨ (r = 1 ∧ ∃ j : Nat, j < lc ∧ i = nI j)) (fun _ _ => True) (fun _ => False)) 0 0 (fun _ => False) := by
  refine Met.ofW (cc := cX3_isLaw) (maxL := 2) (ret := (some .boolean)) (by decide) rfl ?_
  intro p e s m args below meth c s₁ B hml hv
  obtain ⟨rfl, hP, hK⟩ := hv
  have hx := B.exec
  have hb := B.bytes
  have hr := B.returns
  have hts := atoms_spec (ws := wsX3_isLaw) B.pre
  have hown : s.vm.findClass RX3 = some m.cls := findClass_of_methodNamed B.named
  have hlocks := B.notSynchronized
  have inX3 : ∀ w ∈ wsX30, w ∈ wsX3_isLaw := fun _ h => List.mem_cons_of_mem _ (List.mem_append_left _ (List.mem_append_right _ h))
  have inX2 : ∀ w ∈ wsX20, w ∈ wsX3_isLaw := fun _ h => List.mem_cons_of_mem _ (List.mem_append_right _ h)
  have hS : va_S (fun _ => False) s.heap s.heap [] := va_S.rf
  have hl := lv_entry ([.ref x0, .int i]) (n := 2) (Nat.le_of_ble_eq_true rfl)
  rw [lg_entry_eq]
  generalize (lg_sl ([.ref x0, .int i]) ++ List.replicate (2 - (lg_sl ([.ref x0, .int i])).length) Slot.unset).toArray = ls at hl ⊢
  generalize hQe : MQ below _ _ s 0 0 _ = Q
  generalize ([.ref x0, .int i] : List Value).toArray = args at hts hQe ⊢
  have hl : lv_has ls 2 [(0, .ref x0), (1, .int i)] := hl
  refine lv_iload_n hx hb dX3_isLaw_0 rfl (lv_at hl 1 rfl) ?_
  refine lv_if_lt (tgt := 19) hx hb dX3_isLaw_1 (by decide) (fun c_1 => ?_) (fun c_1 => ?_)
  · refine lv_iconst (v := nI 0) hx hb dX3_isLaw_19 (by decide) ?_
    subst hQe
    exact W.zret (v := (nI 0)) hx hb hr (by decide) (fun t ht hW => ⟨⟨_, (), rfl, Or.inl ⟨rfl, trivial⟩, trivial⟩, hS.F ht⟩) hS.2.2 dX3_isLaw_20
  · refine lv_iload_n hx hb dX3_isLaw_4 rfl (lv_at hl 1 rfl) ?_
    refine lv_aload_n hx hb dX3_isLaw_5 rfl (lv_at hl 0 rfl) ?_
    refine va_get (D := (dC, dI)) (ci := 3) (v := .ref s0) (C := RX3) (T := TX3) (N := 11) hx hb hts inX3 hown hK hP 0 rfl rfl 0 (by decide) (hts (.fieldLink RX3 12 "StoreSlopes" "now" "LStoreSlopes$State;") (List.mem_of_getElem? (i := 1) rfl)) (fun _ h9 => h9) rfl dX3_isLaw_6 ?_
    refine va_get (D := (dC, dI)) (ci := 2) (v := .int (nI lc)) (C := RX2) (T := TX2) (N := 11) hx hb hts inX2 hown hK hP 1 rfl rfl 8 (by decide) (hts (.fieldLink RX3 75 "StoreSlopes$State" "lawCount" "I") (List.mem_of_getElem? (i := 2) rfl)) (fun _ h9 => h9) rfl dX3_isLaw_9 ?_
    refine lv_icmp_ge (tgt := 19) hx hb dX3_isLaw_12 (by decide) (fun c_12 => ?_) (fun c_12 => ?_)
    · refine lv_iconst (v := nI 0) hx hb dX3_isLaw_19 (by decide) ?_
      subst hQe
      exact W.zret (v := (nI 0)) hx hb hr (by decide) (fun t ht hW => ⟨⟨_, (), rfl, Or.inl ⟨rfl, trivial⟩, trivial⟩, hS.F ht⟩) hS.2.2 dX3_isLaw_20
    · refine lv_iconst (v := nI 1) hx hb dX3_isLaw_15 (by decide) ?_
      refine lv_goto (tgt := 20) hx hb dX3_isLaw_16 (by decide) ?_
      subst hQe
      exact W.zret (v := (nI 1)) hx hb hr (by decide) (fun t ht hW => ⟨⟨_, (), rfl, Or.inr ⟨rfl, x_lt (by omega) c_1 c_12⟩, trivial⟩, hS.F ht⟩) hS.2.2 dX3_isLaw_20
