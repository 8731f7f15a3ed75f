set_option maxHeartbeats 4000000 in
set_option maxRecDepth 100000 in
/-- isStream: 0 .. 3 -/
theorem kX4_isStream (l : Launch) (dC : Nat → ClassId) (dI : Nat → Nat → Nat) (h0 h1 h2 h4 : Nat) (kS : ClassId) (p0 : Int32) : Met l yX4_isStream wsX4_isStream ({ frames := 0, cells := 0, slots := 0, locals := 0 } : Room) (va_Pc [.ref h0, .int p0] (fun U => va_P (dC, dI) vwCl [(h0, .inr (3, [.ref h1, .ref h2, .ref h4])), (h1, .inl (kS, 4, .inr (.inr (.inr (.inr (fun _ => none))))))] U.heap ∧ va_K (dC, dI) vwCl [(kS, .object "SignForms$Stream")] U)) (vp_Si (fun r => (r = 1 ∧ (0 ≤ p0.toInt ∧ p0.toInt < 4)) ∨ (r = 0 ∧ ¬ (0 ≤ p0.toInt ∧ p0.toInt < 4)))) 0 0 (fun _ => False) := by
  refine Met.ofW (cc := cX4_isStream) (maxL := 2) (ret := (some .boolean)) (by decide) rfl ?_
  intro p e s m args below meth c s₁ B hml hv
  obtain ⟨rfl, hP, hK⟩ := hv
  have hx := B.exec
  have hb := B.bytes
  have hr := B.returns
  have hts := atoms_spec (ws := wsX4_isStream) B.pre
  have hown : s.vm.findClass RX4 = some m.cls := findClass_of_methodNamed B.named
  have hlocks := B.notSynchronized
  have hl := lv_entry ([.ref h0, .int p0]) (n := 2) (Nat.le_of_ble_eq_true rfl)
  rw [lg_entry_eq]
  generalize (lg_sl ([.ref h0, .int p0]) ++ List.replicate (2 - (lg_sl ([.ref h0, .int p0])).length) Slot.unset).toArray = ls at hl ⊢
  have hl : lv_has ls 2 [(0, .ref h0), (1, .int p0)] := hl
  refine lv_iload_n hx hb dX4_isStream_0 rfl (lv_at hl 1 rfl) ?_
  refine lv_if_lt (tgt := 17) hx hb dX4_isStream_1 (by decide) (fun c_1 => ?_) (fun c_1 => ?_)
  · have zc_1 : p0.toInt < (0 : Int) := zz_lt rfl (by decide) c_1
    refine lv_iconst (v := 0) hx hb dX4_isStream_17 (by decide) ?_
    exact W.zret (v := 0) hx hb hr rfl (fun t ht hW => ⟨0, rfl, Or.inr ⟨rfl, by omega⟩, ht⟩) (fun q h => by cases h) dX4_isStream_18
  · have zc_1 : p0.toInt ≥ (0 : Int) := zz_nlt rfl (by decide) c_1
    refine lv_iload_n hx hb dX4_isStream_4 rfl (lv_at hl 1 rfl) ?_
    refine lv_aload_n hx hb dX4_isStream_5 rfl (lv_at hl 0 rfl) ?_
    refine va_get (D := (dC, dI)) (ci := 3) (v := .ref h1) (C := RX4) (T := TX4) (N := 3) hx hb hts (by decide +kernel) hown hK hP 0 rfl rfl 0 (by decide) (hts (.fieldLink RX4 11 "SignForms" "streams" "[LSignForms$Stream;") (by decide +kernel)) (fun _ h9 => h9) rfl dX4_isStream_6 ?_
    refine va_alen (v := 4) hx hb hK hP 1 0 rfl rfl (by decide) dX4_isStream_9 ?_
    refine lv_icmp_ge (tgt := 17) hx hb dX4_isStream_10 (by decide) (fun c_2 => ?_) (fun c_2 => ?_)
    · have zc_2 : (4 : Int) ≤ p0.toInt := zz_le (by decide) rfl c_2
      refine lv_iconst (v := 0) hx hb dX4_isStream_17 (by decide) ?_
      exact W.zret (v := 0) hx hb hr rfl (fun t ht hW => ⟨0, rfl, Or.inr ⟨rfl, by omega⟩, ht⟩) (fun q h => by cases h) dX4_isStream_18
    · have zc_2 : (4 : Int) > p0.toInt := zz_nle (by decide) rfl c_2
      refine lv_iconst (v := 1) hx hb dX4_isStream_13 (by decide) ?_
      refine lv_goto (tgt := 18) hx hb dX4_isStream_14 (by decide) ?_
      exact W.zret (v := 1) hx hb hr rfl (fun t ht hW => ⟨1, rfl, Or.inl ⟨rfl, by omega⟩, ht⟩) (fun q h => by cases h) dX4_isStream_18
set_option maxHeartbeats 4000000 in
set_option maxRecDepth 100000 in
theorem kX4_isWritable (l : Launch) (p0 : Int32) : Met l yX4_isWritable wsX4_isWritable ({ frames := 0, cells := 0, slots := 0, locals := 0 } : Room) (va_Pc [.int p0] (fun _ => True)) (vp_Si (fun r => (r = 1 ∧ (0 ≤ p0.toInt ∧ p0.toInt ≤ 5)) ∨ (r = 0 ∧ ¬ (0 ≤ p0.toInt ∧ p0.toInt ≤ 5)))) 0 0 (fun _ => False) := by
  refine Met.ofW (cc := cX4_isWritable) (maxL := 1) (ret := (some .boolean)) (by decide) rfl ?_
  intro p e s m args below meth c s₁ B hml hv
  obtain ⟨rfl, -⟩ := hv
  have hx := B.exec
  have hb := B.bytes
  have hr := B.returns
  have hts := atoms_spec (ws := wsX4_isWritable) B.pre
  have hown : s.vm.findClass RX4 = some m.cls := findClass_of_methodNamed B.named
  have hlocks := B.notSynchronized
  have hl := lv_entry ([.int p0]) (n := 1) (Nat.le_of_ble_eq_true rfl)
  rw [lg_entry_eq]
  generalize (lg_sl ([.int p0]) ++ List.replicate (1 - (lg_sl ([.int p0])).length) Slot.unset).toArray = ls at hl ⊢
  have hl : lv_has ls 1 [(0, .int p0)] := hl
  refine lv_iload_n hx hb dX4_isWritable_0 rfl (lv_at hl 0 rfl) ?_
  refine lv_if_lt (tgt := 13) hx hb dX4_isWritable_1 (by decide) (fun c_1 => ?_) (fun c_1 => ?_)
  · have zc_1 : p0.toInt < (0 : Int) := zz_lt rfl (by decide) c_1
    refine lv_iconst (v := 0) hx hb dX4_isWritable_13 (by decide) ?_
    exact W.zret (v := 0) hx hb hr rfl (fun t ht hW => ⟨0, rfl, Or.inr ⟨rfl, by omega⟩, ht⟩) (fun q h => by cases h) dX4_isWritable_14
  · have zc_1 : p0.toInt ≥ (0 : Int) := zz_nlt rfl (by decide) c_1
    refine lv_iload_n hx hb dX4_isWritable_4 rfl (lv_at hl 0 rfl) ?_
    refine lv_iconst (v := 5) hx hb dX4_isWritable_5 (by decide) ?_
    refine lv_icmp_gt (tgt := 13) hx hb dX4_isWritable_6 (by decide) (fun c_2 => ?_) (fun c_2 => ?_)
    · have zc_2 : (5 : Int) < p0.toInt := zz_lt (by decide) rfl c_2
      refine lv_iconst (v := 0) hx hb dX4_isWritable_13 (by decide) ?_
      exact W.zret (v := 0) hx hb hr rfl (fun t ht hW => ⟨0, rfl, Or.inr ⟨rfl, by omega⟩, ht⟩) (fun q h => by cases h) dX4_isWritable_14
    · have zc_2 : (5 : Int) ≥ p0.toInt := zz_nlt (by decide) rfl c_2
      refine lv_iconst (v := 1) hx hb dX4_isWritable_9 (by decide) ?_
      refine lv_goto (tgt := 14) hx hb dX4_isWritable_10 (by decide) ?_
      exact W.zret (v := 1) hx hb hr rfl (fun t ht hW => ⟨1, rfl, Or.inl ⟨rfl, by omega⟩, ht⟩) (fun q h => by cases h) dX4_isWritable_14
set_option maxHeartbeats 4000000 in
set_option maxRecDepth 100000 in
theorem kX4_openStream (l : Launch) (dC : Nat → ClassId) (dI : Nat → Nat → Nat) (h0 h1 h2 h4 : Nat) (kS : ClassId) (p0 : Int32) : Met l yX4_openStream wsX4_openStream ({ frames := 1, cells := 0, slots := 0, locals := 21 } : Room) (va_Pc [.ref h0, .int p0] (fun U => va_P (dC, dI) vwCl [(h0, .inr (3, [.ref h1, .ref h2, .ref h4])), (h1, .inl (kS, 4, .inr (.inr (.inr (.inr (fun _ => none))))))] U.heap ∧ va_K (dC, dI) vwCl [(kS, .object "SignForms$Stream")] U)) (va_Sq (fun r => r = none)) 0 0 (fun _ => False) := by
  refine Met.ofW (cc := cX4_openStream) (maxL := 2) (ret := (some (.object "SignForms$Stream"))) (by decide) rfl ?_
  intro p e s m args below meth c s₁ B hml hv
  obtain ⟨rfl, hP, hK⟩ := hv
  have hx := B.exec
  have hb := B.bytes
  have hr := B.returns
  have hts := atoms_spec (ws := wsX4_openStream) B.pre
  have hown : s.vm.findClass RX4 = some m.cls := findClass_of_methodNamed B.named
  have hlocks := B.notSynchronized
  have hl := lv_entry ([.ref h0, .int p0]) (n := 2) (Nat.le_of_ble_eq_true rfl)
  rw [lg_entry_eq]
  generalize (lg_sl ([.ref h0, .int p0]) ++ List.replicate (2 - (lg_sl ([.ref h0, .int p0])).length) Slot.unset).toArray = ls at hl ⊢
  have hl : lv_has ls 2 [(0, .ref h0), (1, .int p0)] := hl
  refine lv_aload_n hx hb dX4_openStream_0 rfl (lv_at hl 0 rfl) ?_
  refine lv_iload_n hx hb dX4_openStream_1 rfl (lv_at hl 1 rfl) ?_
  have hPc := hP.sub (ws' := [(h0, .inr (3, [.ref h1, .ref h2, .ref h4])), (h1, .inl (kS, 4, .inr (.inr (.inr (.inr (fun _ => none))))))]) [0, 1] rfl
  have hKc := hK.sub (tys' := [(kS, .object "SignForms$Stream")]) [0] rfl
  refine vp_callSi (W.runV (As := [.int p0]) (rest := []) ⟨hx, hb, hml, hown, hts⟩ (kX4_isStream l dC dI h0 h1 h2 h4 kS p0) (cwV 1 hts gX4_openStream_X4_isStream rfl rfl rfl (by decide +kernel) ⟨Nat.le_of_ble_eq_true rfl, Nat.le_of_ble_eq_true rfl⟩) ⟨fun a U g mk q => by obtain ⟨q0, qP, qK⟩ := q; exact ⟨q0, qP, va_K.moved (u := U) (U := U.calling g mk a) (Vm.Alike.refl U.vm) qK⟩, va_recv hKc hPc (ci := 3) (q0 := 0) rfl rfl, fun U hU hW => ⟨rfl, by rw [hU]; exact hPc, va_K.moved hW.alike hKc⟩⟩ rfl rfl hl.1 rfl (lv_room (Nat.le_of_ble_eq_true rfl)) dX4_openStream_2 ⟨Nat.le_of_ble_eq_true rfl, Nat.le_of_ble_eq_true rfl⟩) (fun r_1 hwr_1 => ?_)
  rcases hwr_1 with ⟨rfl, hwr_1⟩ | ⟨rfl, hwr_1⟩
  · refine lv_if_eq (tgt := 17) hx hb dX4_openStream_5 (by decide) (fun c_2 => False.elim (by revert c_2; decide)) (fun _ => ?_)
    refine lv_aload_n hx hb dX4_openStream_8 rfl (lv_at hl 0 rfl) ?_
    refine va_get (D := (dC, dI)) (ci := 3) (v := .ref h1) (C := RX4) (T := TX4) (N := 3) hx hb hts (by decide +kernel) hown hK hP 0 rfl rfl 0 (by decide) (hts (.fieldLink RX4 11 "SignForms" "streams" "[LSignForms$Stream;") (by decide +kernel)) (fun _ h9 => h9) rfl dX4_openStream_9 ?_
    refine lv_iload_n hx hb dX4_openStream_12 rfl (lv_at hl 1 rfl) ?_
    refine va_aldq hx hb hK hP 1 0 rfl rfl (vp_in_iff.mpr (by omega)) dX4_openStream_13 ?_
    refine W.eq (g2 := F0 m 14 ls [.null]) rfl ?_
    refine lv_goto (tgt := 18) hx hb dX4_openStream_14 (by decide) ?_
    exact W.aret (v := .null) hx hb hr (Or.inl ⟨_, rfl⟩) (Or.inl rfl) (fun t ht hW => ⟨none, rfl, rfl, ht⟩) (fun q h => by cases h) dX4_openStream_18
  · refine lv_if_eq (tgt := 17) hx hb dX4_openStream_5 (by decide) (fun _ => ?_) (fun c_3 => False.elim (by revert c_3; decide))
    refine lv_null hx hb dX4_openStream_17 ?_
    exact W.aret (v := .null) hx hb hr (Or.inl ⟨_, rfl⟩) (Or.inl rfl) (fun t ht hW => ⟨none, rfl, rfl, ht⟩) (fun q h => by cases h) dX4_openStream_18
set_option maxHeartbeats 4000000 in
set_option maxRecDepth 100000 in
theorem kX1_byteAt (l : Launch) (dC : Nat → ClassId) (dI : Nat → Nat → Nat) (h2 h3 : Nat) (p0 : Int32) : Met l yX1_byteAt wsX1_byteAt ({ frames := 0, cells := 0, slots := 0, locals := 0 } : Room) (va_Pc [.ref h2, .int p0] (fun U => va_P (dC, dI) vwCl [(h2, .inr (0, [.ref h3, .int 0]))] U.heap ∧ va_K (dC, dI) vwCl [] U)) (vp_Si (fun r => r = -1)) 0 0 (fun _ => False) := by
  refine Met.ofW (cc := cX1_byteAt) (maxL := 2) (ret := (some .int)) (by decide) rfl ?_
  intro p e s m args below meth c s₁ B hml hv
  obtain ⟨rfl, hP, hK⟩ := hv
  have hx := B.exec
  have hb := B.bytes
  have hr := B.returns
  have hts := atoms_spec (ws := wsX1_byteAt) B.pre
  have hown : s.vm.findClass RX1 = some m.cls := findClass_of_methodNamed B.named
  have hlocks := B.notSynchronized
  have hl := lv_entry ([.ref h2, .int p0]) (n := 2) (Nat.le_of_ble_eq_true rfl)
  rw [lg_entry_eq]
  generalize (lg_sl ([.ref h2, .int p0]) ++ List.replicate (2 - (lg_sl ([.ref h2, .int p0])).length) Slot.unset).toArray = ls at hl ⊢
  have hl : lv_has ls 2 [(0, .ref h2), (1, .int p0)] := hl
  refine lv_iload_n hx hb dX1_byteAt_0 rfl (lv_at hl 1 rfl) ?_
  refine lv_if_lt (tgt := 21) hx hb dX1_byteAt_1 (by decide) (fun c_1 => ?_) (fun c_1 => ?_)
  · have zc_1 : p0.toInt < (0 : Int) := zz_lt rfl (by decide) c_1
    refine lv_iconst (v := (-1)) hx hb dX1_byteAt_21 (by decide) ?_
    exact W.iret (v := (-1)) hx hb hr (fun t ht hW => ⟨(-1), rfl, rfl, ht⟩) (fun q h => by cases h) dX1_byteAt_22
  · have zc_1 : p0.toInt ≥ (0 : Int) := zz_nlt rfl (by decide) c_1
    refine lv_iload_n hx hb dX1_byteAt_4 rfl (lv_at hl 1 rfl) ?_
    refine lv_aload_n hx hb dX1_byteAt_5 rfl (lv_at hl 0 rfl) ?_
    refine va_get (D := (dC, dI)) (ci := 0) (v := .int 0) (C := RX1) (T := TX1) (N := 2) hx hb hts (by decide +kernel) hown hK hP 0 rfl rfl 1 (by decide) (hts (.fieldLink RX1 15 "SignForms$OutRow" "count" "I") (by decide +kernel)) (fun _ h9 => h9) rfl dX1_byteAt_6 ?_
    refine lv_icmp_ge (tgt := 21) hx hb dX1_byteAt_9 (by decide) (fun c_2 => ?_) (fun c_2 => ?_)
    · have zc_2 : (0 : Int) ≤ p0.toInt := zz_le (by decide) rfl c_2
      refine lv_iconst (v := (-1)) hx hb dX1_byteAt_21 (by decide) ?_
      exact W.iret (v := (-1)) hx hb hr (fun t ht hW => ⟨(-1), rfl, rfl, ht⟩) (fun q h => by cases h) dX1_byteAt_22
    · have zc_2 : (0 : Int) > p0.toInt := zz_nle (by decide) rfl c_2
      exfalso
      omega
set_option maxHeartbeats 4000000 in
set_option maxRecDepth 100000 in
theorem kX4_put (l : Launch) (dC : Nat → ClassId) (dI : Nat → Nat → Nat) (h0 h1 h2 h4 : Nat) (kS : ClassId) (p0 : Int32) (w0 : Int64) (p1 : Int32) : Met l yX4_put wsX4_put ({ frames := 1, cells := 0, slots := 0, locals := 21 } : Room) (va_Pc [.ref h0, .int p0, .long w0, .int p1] (fun U => va_P (dC, dI) vwCl [(h0, .inr (3, [.ref h1, .ref h2, .ref h4])), (h1, .inl (kS, 4, .inr (.inr (.inr (.inr (fun _ => none))))))] U.heap ∧ va_K (dC, dI) vwCl [(kS, .object "SignForms$Stream")] U)) (vp_Si (fun r => r = an_put p0 p1)) 0 0 (fun _ => False) := by
  refine Met.ofW (cc := cX4_put) (maxL := 7) (ret := (some .int)) (by decide) rfl ?_
  intro p e s m args below meth c s₁ B hml hv
  obtain ⟨rfl, hP, hK⟩ := hv
  have hx := B.exec
  have hb := B.bytes
  have hr := B.returns
  have hts := atoms_spec (ws := wsX4_put) B.pre
  have hown : s.vm.findClass RX4 = some m.cls := findClass_of_methodNamed B.named
  have hlocks := B.notSynchronized
  have hl := lv_entry ([.ref h0, .int p0, .long w0, .int p1]) (n := 7) (Nat.le_of_ble_eq_true rfl)
  rw [lg_entry_eq]
  generalize (lg_sl ([.ref h0, .int p0, .long w0, .int p1]) ++ List.replicate (7 - (lg_sl ([.ref h0, .int p0, .long w0, .int p1])).length) Slot.unset).toArray = ls at hl ⊢
  have hl : lv_has ls 7 [(0, .ref h0), (1, .int p0), (2, .long w0), (4, .int p1)] := hl
  refine lv_aload_n hx hb dX4_put_0 rfl (lv_at hl 0 rfl) ?_
  refine lv_iload_n hx hb dX4_put_1 rfl (lv_at hl 1 rfl) ?_
  have hPc := hP.sub (ws' := [(h0, .inr (3, [.ref h1, .ref h2, .ref h4])), (h1, .inl (kS, 4, .inr (.inr (.inr (.inr (fun _ => none))))))]) [0, 1] rfl
  have hKc := hK.sub (tys' := [(kS, .object "SignForms$Stream")]) [0] rfl
  refine vp_callSi (W.runV (As := [.int p0]) (rest := []) ⟨hx, hb, hml, hown, hts⟩ (kX4_isStream l dC dI h0 h1 h2 h4 kS p0) (cwV 1 hts gX4_put_X4_isStream rfl rfl rfl (by decide +kernel) ⟨Nat.le_of_ble_eq_true rfl, Nat.le_of_ble_eq_true rfl⟩) ⟨fun a U g mk q => by obtain ⟨q0, qP, qK⟩ := q; exact ⟨q0, qP, va_K.moved (u := U) (U := U.calling g mk a) (Vm.Alike.refl U.vm) qK⟩, va_recv hKc hPc (ci := 3) (q0 := 0) rfl rfl, fun U hU hW => ⟨rfl, by rw [hU]; exact hPc, va_K.moved hW.alike hKc⟩⟩ rfl rfl hl.1 rfl (lv_room (Nat.le_of_ble_eq_true rfl)) dX4_put_2 ⟨Nat.le_of_ble_eq_true rfl, Nat.le_of_ble_eq_true rfl⟩) (fun r_1 hwr_1 => ?_)
  rcases hwr_1 with ⟨rfl, hwr_1⟩ | ⟨rfl, hwr_1⟩
  · refine lv_if_eq (tgt := 21) hx hb dX4_put_5 (by decide) (fun c_2 => False.elim (by revert c_2; decide)) (fun _ => ?_)
    refine lv_iload hx hb dX4_put_8 (lv_at hl 3 rfl) ?_
    refine lv_iconst (v := 1) hx hb dX4_put_10 (by decide) ?_
    refine lv_icmp_lt (tgt := 21) hx hb dX4_put_11 (by decide) (fun c_3 => ?_) (fun c_3 => ?_)
    · have zc_3 : p1.toInt < (1 : Int) := zz_lt rfl (by decide) c_3
      refine lv_iconst (v := (-1)) hx hb dX4_put_21 (by decide) ?_
      exact W.iret (v := (-1)) hx hb hr (fun t ht hW => ⟨(-1), rfl, by unfold an_put; first | rw [if_pos (by omega)] | rw [if_neg (by omega)], ht⟩) (fun q h => by cases h) dX4_put_22
    · have zc_3 : p1.toInt ≥ (1 : Int) := zz_nlt rfl (by decide) c_3
      refine lv_iload hx hb dX4_put_14 (lv_at hl 3 rfl) ?_
      refine lv_bipush (v := 8) hx hb dX4_put_16 (by decide) ?_
      refine lv_icmp_le (tgt := 23) hx hb dX4_put_18 (by decide) (fun c_4 => ?_) (fun c_4 => ?_)
      · have zc_4 : p1.toInt ≤ (8 : Int) := zz_le rfl (by decide) c_4
        refine lv_aload_n hx hb dX4_put_23 rfl (lv_at hl 0 rfl) ?_
        refine va_get (D := (dC, dI)) (ci := 3) (v := .ref h1) (C := RX4) (T := TX4) (N := 3) hx hb hts (by decide +kernel) hown hK hP 0 rfl rfl 0 (by decide) (hts (.fieldLink RX4 11 "SignForms" "streams" "[LSignForms$Stream;") (by decide +kernel)) (fun _ h9 => h9) rfl dX4_put_24 ?_
        refine lv_iload_n hx hb dX4_put_27 rfl (lv_at hl 1 rfl) ?_
        refine va_aldq hx hb hK hP 1 0 rfl rfl (vp_in_iff.mpr (by omega)) dX4_put_28 ?_
        refine W.eq (g2 := F0 m 29 ls [.null]) rfl ?_
        refine lv_astoreN (lv' := [(5, .null), (0, .ref h0), (1, .int p0), (2, .long w0), (4, .int p1)]) hx hb dX4_put_29 hl (by decide) rfl (fun ls hl => ?_)
        refine lv_aloadN hx hb dX4_put_31 (lv_at hl 0 rfl) ?_
        refine lv_ifnullN (tgt := 44) hx hb dX4_put_33 (by decide) ?_
        refine lv_bipush (v := (-2)) hx hb dX4_put_44 (by decide) ?_
        exact W.iret (v := (-2)) hx hb hr (fun t ht hW => ⟨(-2), rfl, by unfold an_put; first | rw [if_pos (by omega)] | rw [if_neg (by omega)], ht⟩) (fun q h => by cases h) dX4_put_46
      · have zc_4 : p1.toInt > (8 : Int) := zz_nle rfl (by decide) c_4
        refine lv_iconst (v := (-1)) hx hb dX4_put_21 (by decide) ?_
        exact W.iret (v := (-1)) hx hb hr (fun t ht hW => ⟨(-1), rfl, by unfold an_put; first | rw [if_pos (by omega)] | rw [if_neg (by omega)], ht⟩) (fun q h => by cases h) dX4_put_22
  · refine lv_if_eq (tgt := 21) hx hb dX4_put_5 (by decide) (fun _ => ?_) (fun c_5 => False.elim (by revert c_5; decide))
    refine lv_iconst (v := (-1)) hx hb dX4_put_21 (by decide) ?_
    exact W.iret (v := (-1)) hx hb hr (fun t ht hW => ⟨(-1), rfl, by unfold an_put; first | rw [if_pos (by omega)] | rw [if_neg (by omega)], ht⟩) (fun q h => by cases h) dX4_put_22
set_option maxHeartbeats 4000000 in
set_option maxRecDepth 100000 in
theorem kX4_pour (l : Launch) (dC : Nat → ClassId) (dI : Nat → Nat → Nat) (h0 h1 h2 h3 h4 : Nat) (kS : ClassId) (p0 : Int32) (p1 : Int32) (p2 : Int32) : Met l yX4_pour wsX4_pour ({ frames := 1, cells := 0, slots := 0, locals := 21 } : Room) (va_Pc [.ref h0, .int p0, .int p1, .int p2] (fun U => va_P (dC, dI) vwCl [(h0, .inr (3, [.ref h1, .ref h2, .ref h4])), (h1, .inl (kS, 4, .inr (.inr (.inr (.inr (fun _ => none)))))), (h2, .inr (0, [.ref h3, .int 0]))] U.heap ∧ va_K (dC, dI) vwCl [(kS, .object "SignForms$Stream")] U)) (vp_Si (fun r => r = an_pour p0 p1 p2)) 0 0 (fun _ => False) := by
  refine Met.ofW (cc := cX4_pour) (maxL := 7) (ret := (some .int)) (by decide) rfl ?_
  intro p e s m args below meth c s₁ B hml hv
  obtain ⟨rfl, hP, hK⟩ := hv
  have hx := B.exec
  have hb := B.bytes
  have hr := B.returns
  have hts := atoms_spec (ws := wsX4_pour) B.pre
  have hown : s.vm.findClass RX4 = some m.cls := findClass_of_methodNamed B.named
  have hlocks := B.notSynchronized
  have hl := lv_entry ([.ref h0, .int p0, .int p1, .int p2]) (n := 7) (Nat.le_of_ble_eq_true rfl)
  rw [lg_entry_eq]
  generalize (lg_sl ([.ref h0, .int p0, .int p1, .int p2]) ++ List.replicate (7 - (lg_sl ([.ref h0, .int p0, .int p1, .int p2])).length) Slot.unset).toArray = ls at hl ⊢
  have hl : lv_has ls 7 [(0, .ref h0), (1, .int p0), (2, .int p1), (3, .int p2)] := hl
  refine lv_aload_n hx hb dX4_pour_0 rfl (lv_at hl 0 rfl) ?_
  refine lv_iload_n hx hb dX4_pour_1 rfl (lv_at hl 1 rfl) ?_
  have hPc := hP.sub (ws' := [(h0, .inr (3, [.ref h1, .ref h2, .ref h4])), (h1, .inl (kS, 4, .inr (.inr (.inr (.inr (fun _ => none))))))]) [0, 1] rfl
  have hKc := hK.sub (tys' := [(kS, .object "SignForms$Stream")]) [0] rfl
  refine vp_callSi (W.runV (As := [.int p0]) (rest := []) ⟨hx, hb, hml, hown, hts⟩ (kX4_isStream l dC dI h0 h1 h2 h4 kS p0) (cwV 1 hts gX4_pour_X4_isStream rfl rfl rfl (by decide +kernel) ⟨Nat.le_of_ble_eq_true rfl, Nat.le_of_ble_eq_true rfl⟩) ⟨fun a U g mk q => by obtain ⟨q0, qP, qK⟩ := q; exact ⟨q0, qP, va_K.moved (u := U) (U := U.calling g mk a) (Vm.Alike.refl U.vm) qK⟩, va_recv hKc hPc (ci := 3) (q0 := 0) rfl rfl, fun U hU hW => ⟨rfl, by rw [hU]; exact hPc, va_K.moved hW.alike hKc⟩⟩ rfl rfl hl.1 rfl (lv_room (Nat.le_of_ble_eq_true rfl)) dX4_pour_2 ⟨Nat.le_of_ble_eq_true rfl, Nat.le_of_ble_eq_true rfl⟩) (fun r_1 hwr_1 => ?_)
  rcases hwr_1 with ⟨rfl, hwr_1⟩ | ⟨rfl, hwr_1⟩
  · refine lv_if_eq (tgt := 27) hx hb dX4_pour_5 (by decide) (fun c_2 => False.elim (by revert c_2; decide)) (fun _ => ?_)
    refine lv_iload_n hx hb dX4_pour_8 rfl (lv_at hl 2 rfl) ?_
    refine lv_if_lt (tgt := 27) hx hb dX4_pour_9 (by decide) (fun c_3 => ?_) (fun c_3 => ?_)
    · have zc_3 : p1.toInt < (0 : Int) := zz_lt rfl (by decide) c_3
      refine lv_iconst (v := (-1)) hx hb dX4_pour_27 (by decide) ?_
      exact W.iret (v := (-1)) hx hb hr (fun t ht hW => ⟨(-1), rfl, by unfold an_pour; first | rw [if_pos (by omega)] | rw [if_neg (by omega)], ht⟩) (fun q h => by cases h) dX4_pour_28
    · have zc_3 : p1.toInt ≥ (0 : Int) := zz_nlt rfl (by decide) c_3
      refine lv_iload_n hx hb dX4_pour_12 rfl (lv_at hl 2 rfl) ?_
      refine lv_aload_n hx hb dX4_pour_13 rfl (lv_at hl 0 rfl) ?_
      refine va_get (D := (dC, dI)) (ci := 3) (v := .ref h2) (C := RX4) (T := TX4) (N := 3) hx hb hts (by decide +kernel) hown hK hP 0 rfl rfl 1 (by decide) (hts (.fieldLink RX4 18 "SignForms" "outRow" "LSignForms$OutRow;") (by decide +kernel)) (fun _ h9 => h9) rfl dX4_pour_14 ?_
      refine va_get (D := (dC, dI)) (ci := 0) (v := .int 0) (C := RX1) (T := TX1) (N := 2) hx hb hts (by decide +kernel) hown hK hP 2 rfl rfl 1 (by decide) (hts (.fieldLink RX4 56 "SignForms$OutRow" "count" "I") (by decide +kernel)) (fun _ h9 => h9) rfl dX4_pour_17 ?_
      refine lv_icmp_gt (tgt := 27) hx hb dX4_pour_20 (by decide) (fun c_4 => ?_) (fun c_4 => ?_)
      · have zc_4 : (0 : Int) < p1.toInt := zz_lt (by decide) rfl c_4
        refine lv_iconst (v := (-1)) hx hb dX4_pour_27 (by decide) ?_
        exact W.iret (v := (-1)) hx hb hr (fun t ht hW => ⟨(-1), rfl, by unfold an_pour; first | rw [if_pos (by omega)] | rw [if_neg (by omega)], ht⟩) (fun q h => by cases h) dX4_pour_28
      · have zc_4 : (0 : Int) ≥ p1.toInt := zz_nlt (by decide) rfl c_4
        refine lv_iload_n hx hb dX4_pour_23 rfl (lv_at hl 3 rfl) ?_
        refine lv_if_ge (tgt := 29) hx hb dX4_pour_24 (by decide) (fun c_5 => ?_) (fun c_5 => ?_)
        · have zc_5 : (0 : Int) ≤ p2.toInt := zz_le (by decide) rfl c_5
          refine lv_aload_n hx hb dX4_pour_29 rfl (lv_at hl 0 rfl) ?_
          refine va_get (D := (dC, dI)) (ci := 3) (v := .ref h1) (C := RX4) (T := TX4) (N := 3) hx hb hts (by decide +kernel) hown hK hP 0 rfl rfl 0 (by decide) (hts (.fieldLink RX4 11 "SignForms" "streams" "[LSignForms$Stream;") (by decide +kernel)) (fun _ h9 => h9) rfl dX4_pour_30 ?_
          refine lv_iload_n hx hb dX4_pour_33 rfl (lv_at hl 1 rfl) ?_
          refine va_aldq hx hb hK hP 1 0 rfl rfl (vp_in_iff.mpr (by omega)) dX4_pour_34 ?_
          refine W.eq (g2 := F0 m 35 ls [.null]) rfl ?_
          refine lv_astoreN (lv' := [(4, .null), (0, .ref h0), (1, .int p0), (2, .int p1), (3, .int p2)]) hx hb dX4_pour_35 hl (by decide) rfl (fun ls hl => ?_)
          refine lv_aloadN hx hb dX4_pour_37 (lv_at hl 0 rfl) ?_
          refine lv_ifnullN (tgt := 50) hx hb dX4_pour_39 (by decide) ?_
          refine lv_bipush (v := (-2)) hx hb dX4_pour_50 (by decide) ?_
          exact W.iret (v := (-2)) hx hb hr (fun t ht hW => ⟨(-2), rfl, by unfold an_pour; first | rw [if_pos (by omega)] | rw [if_neg (by omega)], ht⟩) (fun q h => by cases h) dX4_pour_52
        · have zc_5 : (0 : Int) > p2.toInt := zz_nle (by decide) rfl c_5
          refine lv_iconst (v := (-1)) hx hb dX4_pour_27 (by decide) ?_
          exact W.iret (v := (-1)) hx hb hr (fun t ht hW => ⟨(-1), rfl, by unfold an_pour; first | rw [if_pos (by omega)] | rw [if_neg (by omega)], ht⟩) (fun q h => by cases h) dX4_pour_28
  · refine lv_if_eq (tgt := 27) hx hb dX4_pour_5 (by decide) (fun _ => ?_) (fun c_6 => False.elim (by revert c_6; decide))
    refine lv_iconst (v := (-1)) hx hb dX4_pour_27 (by decide) ?_
    exact W.iret (v := (-1)) hx hb hr (fun t ht hW => ⟨(-1), rfl, by unfold an_pour; first | rw [if_pos (by omega)] | rw [if_neg (by omega)], ht⟩) (fun q h => by cases h) dX4_pour_28
set_option maxHeartbeats 4000000 in
set_option maxRecDepth 100000 in
theorem kX4_end (l : Launch) (dC : Nat → ClassId) (dI : Nat → Nat → Nat) (h0 h1 h2 h4 : Nat) (kS : ClassId) (p0 : Int32) : Met l yX4_end wsX4_end ({ frames := 1, cells := 0, slots := 0, locals := 21 } : Room) (va_Pc [.ref h0, .int p0] (fun U => va_P (dC, dI) vwCl [(h0, .inr (3, [.ref h1, .ref h2, .ref h4])), (h1, .inl (kS, 4, .inr (.inr (.inr (.inr (fun _ => none))))))] U.heap ∧ va_K (dC, dI) vwCl [(kS, .object "SignForms$Stream")] U)) (vp_Si (fun r => r = an_end p0)) 0 0 (fun _ => False) := by
  refine Met.ofW (cc := cX4_end) (maxL := 3) (ret := (some .int)) (by decide) rfl ?_
  intro p e s m args below meth c s₁ B hml hv
  obtain ⟨rfl, hP, hK⟩ := hv
  have hx := B.exec
  have hb := B.bytes
  have hr := B.returns
  have hts := atoms_spec (ws := wsX4_end) B.pre
  have hown : s.vm.findClass RX4 = some m.cls := findClass_of_methodNamed B.named
  have hlocks := B.notSynchronized
  have hl := lv_entry ([.ref h0, .int p0]) (n := 3) (Nat.le_of_ble_eq_true rfl)
  rw [lg_entry_eq]
  generalize (lg_sl ([.ref h0, .int p0]) ++ List.replicate (3 - (lg_sl ([.ref h0, .int p0])).length) Slot.unset).toArray = ls at hl ⊢
  have hl : lv_has ls 3 [(0, .ref h0), (1, .int p0)] := hl
  refine lv_aload_n hx hb dX4_end_0 rfl (lv_at hl 0 rfl) ?_
  refine lv_iload_n hx hb dX4_end_1 rfl (lv_at hl 1 rfl) ?_
  have hPc := hP.sub (ws' := [(h0, .inr (3, [.ref h1, .ref h2, .ref h4])), (h1, .inl (kS, 4, .inr (.inr (.inr (.inr (fun _ => none))))))]) [0, 1] rfl
  have hKc := hK.sub (tys' := [(kS, .object "SignForms$Stream")]) [0] rfl
  refine vp_callSi (W.runV (As := [.int p0]) (rest := []) ⟨hx, hb, hml, hown, hts⟩ (kX4_isStream l dC dI h0 h1 h2 h4 kS p0) (cwV 1 hts gX4_end_X4_isStream rfl rfl rfl (by decide +kernel) ⟨Nat.le_of_ble_eq_true rfl, Nat.le_of_ble_eq_true rfl⟩) ⟨fun a U g mk q => by obtain ⟨q0, qP, qK⟩ := q; exact ⟨q0, qP, va_K.moved (u := U) (U := U.calling g mk a) (Vm.Alike.refl U.vm) qK⟩, va_recv hKc hPc (ci := 3) (q0 := 0) rfl rfl, fun U hU hW => ⟨rfl, by rw [hU]; exact hPc, va_K.moved hW.alike hKc⟩⟩ rfl rfl hl.1 rfl (lv_room (Nat.le_of_ble_eq_true rfl)) dX4_end_2 ⟨Nat.le_of_ble_eq_true rfl, Nat.le_of_ble_eq_true rfl⟩) (fun r_1 hwr_1 => ?_)
  rcases hwr_1 with ⟨rfl, hwr_1⟩ | ⟨rfl, hwr_1⟩
  · refine lv_if_ne (tgt := 10) hx hb dX4_end_5 (by decide) (fun _ => ?_) (fun c_2 => False.elim (by revert c_2; decide))
    refine lv_aload_n hx hb dX4_end_10 rfl (lv_at hl 0 rfl) ?_
    refine va_get (D := (dC, dI)) (ci := 3) (v := .ref h1) (C := RX4) (T := TX4) (N := 3) hx hb hts (by decide +kernel) hown hK hP 0 rfl rfl 0 (by decide) (hts (.fieldLink RX4 11 "SignForms" "streams" "[LSignForms$Stream;") (by decide +kernel)) (fun _ h9 => h9) rfl dX4_end_11 ?_
    refine lv_iload_n hx hb dX4_end_14 rfl (lv_at hl 1 rfl) ?_
    refine va_aldq hx hb hK hP 1 0 rfl rfl (vp_in_iff.mpr (by omega)) dX4_end_15 ?_
    refine W.eq (g2 := F0 m 16 ls [.null]) rfl ?_
    refine lv_astore_nN (lv' := [(2, .null), (0, .ref h0), (1, .int p0)]) hx hb dX4_end_16 rfl hl (by decide) rfl (fun ls hl => ?_)
    refine lv_aload_nN hx hb dX4_end_17 rfl (lv_at hl 0 rfl) ?_
    refine lv_ifnullN (tgt := 28) hx hb dX4_end_18 (by decide) ?_
    refine lv_bipush (v := (-2)) hx hb dX4_end_28 (by decide) ?_
    exact W.iret (v := (-2)) hx hb hr (fun t ht hW => ⟨(-2), rfl, by unfold an_end; first | rw [if_pos (by omega)] | rw [if_neg (by omega)], ht⟩) (fun q h => by cases h) dX4_end_30
  · refine lv_if_ne (tgt := 10) hx hb dX4_end_5 (by decide) (fun c_3 => False.elim (by revert c_3; decide)) (fun _ => ?_)
    refine lv_iconst (v := (-1)) hx hb dX4_end_8 (by decide) ?_
    exact W.iret (v := (-1)) hx hb hr (fun t ht hW => ⟨(-1), rfl, by unfold an_end; first | rw [if_pos (by omega)] | rw [if_neg (by omega)], ht⟩) (fun q h => by cases h) dX4_end_9
set_option maxHeartbeats 4000000 in
set_option maxRecDepth 100000 in
theorem kX4_about (l : Launch) (dC : Nat → ClassId) (dI : Nat → Nat → Nat) (h0 h1 h2 h4 : Nat) (kS : ClassId) (p0 : Int32) (p1 : Int32) : Met l yX4_about wsX4_about ({ frames := 1, cells := 0, slots := 0, locals := 21 } : Room) (va_Pc [.ref h0, .int p0, .int p1] (fun U => va_P (dC, dI) vwCl [(h0, .inr (3, [.ref h1, .ref h2, .ref h4])), (h1, .inl (kS, 4, .inr (.inr (.inr (.inr (fun _ => none))))))] U.heap ∧ va_K (dC, dI) vwCl [(kS, .object "SignForms$Stream")] U)) (vp_Si (fun r => r = an_about p0 p1)) 0 0 (fun _ => False) := by
  refine Met.ofW (cc := cX4_about) (maxL := 4) (ret := (some .int)) (by decide) rfl ?_
  intro p e s m args below meth c s₁ B hml hv
  obtain ⟨rfl, hP, hK⟩ := hv
  have hx := B.exec
  have hb := B.bytes
  have hr := B.returns
  have hts := atoms_spec (ws := wsX4_about) B.pre
  have hown : s.vm.findClass RX4 = some m.cls := findClass_of_methodNamed B.named
  have hlocks := B.notSynchronized
  have hl := lv_entry ([.ref h0, .int p0, .int p1]) (n := 4) (Nat.le_of_ble_eq_true rfl)
  rw [lg_entry_eq]
  generalize (lg_sl ([.ref h0, .int p0, .int p1]) ++ List.replicate (4 - (lg_sl ([.ref h0, .int p0, .int p1])).length) Slot.unset).toArray = ls at hl ⊢
  have hl : lv_has ls 4 [(0, .ref h0), (1, .int p0), (2, .int p1)] := hl
  refine lv_aload_n hx hb dX4_about_0 rfl (lv_at hl 0 rfl) ?_
  refine lv_iload_n hx hb dX4_about_1 rfl (lv_at hl 1 rfl) ?_
  have hPc := hP.sub (ws' := [(h0, .inr (3, [.ref h1, .ref h2, .ref h4])), (h1, .inl (kS, 4, .inr (.inr (.inr (.inr (fun _ => none))))))]) [0, 1] rfl
  have hKc := hK.sub (tys' := [(kS, .object "SignForms$Stream")]) [0] rfl
  refine vp_callSi (W.runV (As := [.int p0]) (rest := []) ⟨hx, hb, hml, hown, hts⟩ (kX4_isStream l dC dI h0 h1 h2 h4 kS p0) (cwV 1 hts gX4_about_X4_isStream rfl rfl rfl (by decide +kernel) ⟨Nat.le_of_ble_eq_true rfl, Nat.le_of_ble_eq_true rfl⟩) ⟨fun a U g mk q => by obtain ⟨q0, qP, qK⟩ := q; exact ⟨q0, qP, va_K.moved (u := U) (U := U.calling g mk a) (Vm.Alike.refl U.vm) qK⟩, va_recv hKc hPc (ci := 3) (q0 := 0) rfl rfl, fun U hU hW => ⟨rfl, by rw [hU]; exact hPc, va_K.moved hW.alike hKc⟩⟩ rfl rfl hl.1 rfl (lv_room (Nat.le_of_ble_eq_true rfl)) dX4_about_2 ⟨Nat.le_of_ble_eq_true rfl, Nat.le_of_ble_eq_true rfl⟩) (fun r_1 hwr_1 => ?_)
  rcases hwr_1 with ⟨rfl, hwr_1⟩ | ⟨rfl, hwr_1⟩
  · refine lv_if_eq (tgt := 18) hx hb dX4_about_5 (by decide) (fun c_2 => False.elim (by revert c_2; decide)) (fun _ => ?_)
    refine lv_iload_n hx hb dX4_about_8 rfl (lv_at hl 2 rfl) ?_
    refine lv_if_lt (tgt := 18) hx hb dX4_about_9 (by decide) (fun c_3 => ?_) (fun c_3 => ?_)
    · have zc_3 : p1.toInt < (0 : Int) := zz_lt rfl (by decide) c_3
      refine lv_iconst (v := (-1)) hx hb dX4_about_18 (by decide) ?_
      exact W.iret (v := (-1)) hx hb hr (fun t ht hW => ⟨(-1), rfl, by unfold an_about; first | rw [if_pos (by omega)] | rw [if_neg (by omega)], ht⟩) (fun q h => by cases h) dX4_about_19
    · have zc_3 : p1.toInt ≥ (0 : Int) := zz_nlt rfl (by decide) c_3
      refine lv_iload_n hx hb dX4_about_12 rfl (lv_at hl 2 rfl) ?_
      refine lv_bipush (v := 8) hx hb dX4_about_13 (by decide) ?_
      refine lv_icmp_le (tgt := 20) hx hb dX4_about_15 (by decide) (fun c_4 => ?_) (fun c_4 => ?_)
      · have zc_4 : p1.toInt ≤ (8 : Int) := zz_le rfl (by decide) c_4
        refine lv_aload_n hx hb dX4_about_20 rfl (lv_at hl 0 rfl) ?_
        refine va_get (D := (dC, dI)) (ci := 3) (v := .ref h1) (C := RX4) (T := TX4) (N := 3) hx hb hts (by decide +kernel) hown hK hP 0 rfl rfl 0 (by decide) (hts (.fieldLink RX4 11 "SignForms" "streams" "[LSignForms$Stream;") (by decide +kernel)) (fun _ h9 => h9) rfl dX4_about_21 ?_
        refine lv_iload_n hx hb dX4_about_24 rfl (lv_at hl 1 rfl) ?_
        refine va_aldq hx hb hK hP 1 0 rfl rfl (vp_in_iff.mpr (by omega)) dX4_about_25 ?_
        refine W.eq (g2 := F0 m 26 ls [.null]) rfl ?_
        refine lv_astore_nN (lv' := [(3, .null), (0, .ref h0), (1, .int p0), (2, .int p1)]) hx hb dX4_about_26 rfl hl (by decide) rfl (fun ls hl => ?_)
        refine lv_aload_nN hx hb dX4_about_27 rfl (lv_at hl 0 rfl) ?_
        refine lv_ifnonnullN hx hb dX4_about_28 ?_
        refine lv_bipush (v := (-2)) hx hb dX4_about_31 (by decide) ?_
        refine lv_goto (tgt := 41) hx hb dX4_about_33 (by decide) ?_
        exact W.iret (v := (-2)) hx hb hr (fun t ht hW => ⟨(-2), rfl, by unfold an_about; first | rw [if_pos (by omega)] | rw [if_neg (by omega)], ht⟩) (fun q h => by cases h) dX4_about_41
      · have zc_4 : p1.toInt > (8 : Int) := zz_nle rfl (by decide) c_4
        refine lv_iconst (v := (-1)) hx hb dX4_about_18 (by decide) ?_
        exact W.iret (v := (-1)) hx hb hr (fun t ht hW => ⟨(-1), rfl, by unfold an_about; first | rw [if_pos (by omega)] | rw [if_neg (by omega)], ht⟩) (fun q h => by cases h) dX4_about_19
  · refine lv_if_eq (tgt := 18) hx hb dX4_about_5 (by decide) (fun _ => ?_) (fun c_5 => False.elim (by revert c_5; decide))
    refine lv_iconst (v := (-1)) hx hb dX4_about_18 (by decide) ?_
    exact W.iret (v := (-1)) hx hb hr (fun t ht hW => ⟨(-1), rfl, by unfold an_about; first | rw [if_pos (by omega)] | rw [if_neg (by omega)], ht⟩) (fun q h => by cases h) dX4_about_19
set_option maxHeartbeats 4000000 in
set_option maxRecDepth 100000 in
theorem kX4_sign (l : Launch) (dC : Nat → ClassId) (dI : Nat → Nat → Nat) (h0 h1 h2 h4 : Nat) (kS : ClassId) (p0 : Int32) (p1 : Int32) : Met l yX4_sign wsX4_sign ({ frames := 2, cells := 0, slots := 0, locals := 42 } : Room) (va_Pc [.ref h0, .int p0, .int p1] (fun U => va_P (dC, dI) vwCl [(h0, .inr (3, [.ref h1, .ref h2, .ref h4])), (h1, .inl (kS, 4, .inr (.inr (.inr (.inr (fun _ => none))))))] U.heap ∧ va_K (dC, dI) vwCl [(kS, .object "SignForms$Stream")] U)) (vp_Si (fun r => r = -1)) 0 0 (fun _ => False) := by
  refine Met.ofW (cc := cX4_sign) (maxL := 4) (ret := (some .int)) (by decide) rfl ?_
  intro p e s m args below meth c s₁ B hml hv
  obtain ⟨rfl, hP, hK⟩ := hv
  have hx := B.exec
  have hb := B.bytes
  have hr := B.returns
  have hts := atoms_spec (ws := wsX4_sign) B.pre
  have hown : s.vm.findClass RX4 = some m.cls := findClass_of_methodNamed B.named
  have hlocks := B.notSynchronized
  have hl := lv_entry ([.ref h0, .int p0, .int p1]) (n := 4) (Nat.le_of_ble_eq_true rfl)
  rw [lg_entry_eq]
  generalize (lg_sl ([.ref h0, .int p0, .int p1]) ++ List.replicate (4 - (lg_sl ([.ref h0, .int p0, .int p1])).length) Slot.unset).toArray = ls at hl ⊢
  have hl : lv_has ls 4 [(0, .ref h0), (1, .int p0), (2, .int p1)] := hl
  refine lv_aload_n hx hb dX4_sign_0 rfl (lv_at hl 0 rfl) ?_
  refine lv_iload_n hx hb dX4_sign_1 rfl (lv_at hl 1 rfl) ?_
  have hPc := hP.sub (ws' := [(h0, .inr (3, [.ref h1, .ref h2, .ref h4])), (h1, .inl (kS, 4, .inr (.inr (.inr (.inr (fun _ => none))))))]) [0, 1] rfl
  have hKc := hK.sub (tys' := [(kS, .object "SignForms$Stream")]) [0] rfl
  refine va_csq (W.runV (As := [.int p0]) (rest := []) ⟨hx, hb, hml, hown, hts⟩ (kX4_openStream l dC dI h0 h1 h2 h4 kS p0) (cwV 1 hts gX4_sign_X4_openStream rfl rfl rfl (by decide +kernel) ⟨Nat.le_of_ble_eq_true rfl, Nat.le_of_ble_eq_true rfl⟩) ⟨fun a U g mk q => by obtain ⟨q0, qP, qK⟩ := q; exact ⟨q0, qP, va_K.moved (u := U) (U := U.calling g mk a) (Vm.Alike.refl U.vm) qK⟩, va_recv hKc hPc (ci := 3) (q0 := 0) rfl rfl, fun U hU hW => ⟨rfl, by rw [hU]; exact hPc, va_K.moved hW.alike hKc⟩⟩ rfl rfl hl.1 rfl (lv_room (Nat.le_of_ble_eq_true rfl)) dX4_sign_2 ⟨Nat.le_of_ble_eq_true rfl, Nat.le_of_ble_eq_true rfl⟩) (fun r_1 hwr_1 => ?_)
  subst hwr_1
  refine W.eq (g2 := F0 m 5 ls [.null]) rfl ?_
  refine lv_astore_nN (lv' := [(3, .null), (0, .ref h0), (1, .int p0), (2, .int p1)]) hx hb dX4_sign_5 rfl hl (by decide) rfl (fun ls hl => ?_)
  refine lv_aload_nN hx hb dX4_sign_6 rfl (lv_at hl 0 rfl) ?_
  refine lv_ifnullN (tgt := 18) hx hb dX4_sign_7 (by decide) ?_
  refine lv_iconst (v := (-1)) hx hb dX4_sign_18 (by decide) ?_
  exact W.iret (v := (-1)) hx hb hr (fun t ht hW => ⟨(-1), rfl, rfl, ht⟩) (fun q h => by cases h) dX4_sign_19
set_option maxHeartbeats 4000000 in
set_option maxRecDepth 100000 in
theorem kX4_placed (l : Launch) (dC : Nat → ClassId) (dI : Nat → Nat → Nat) (h0 h1 h2 h4 : Nat) (kS : ClassId) (p0 : Int32) (p1 : Int32) (p2 : Int32) : Met l yX4_placed wsX4_placed ({ frames := 2, cells := 0, slots := 0, locals := 42 } : Room) (va_Pc [.ref h0, .int p0, .int p1, .int p2] (fun U => va_P (dC, dI) vwCl [(h0, .inr (3, [.ref h1, .ref h2, .ref h4])), (h1, .inl (kS, 4, .inr (.inr (.inr (.inr (fun _ => none))))))] U.heap ∧ va_K (dC, dI) vwCl [(kS, .object "SignForms$Stream")] U)) (vp_Si (fun r => r = -1)) 0 0 (fun _ => False) := by
  refine Met.ofW (cc := cX4_placed) (maxL := 5) (ret := (some .int)) (by decide) rfl ?_
  intro p e s m args below meth c s₁ B hml hv
  obtain ⟨rfl, hP, hK⟩ := hv
  have hx := B.exec
  have hb := B.bytes
  have hr := B.returns
  have hts := atoms_spec (ws := wsX4_placed) B.pre
  have hown : s.vm.findClass RX4 = some m.cls := findClass_of_methodNamed B.named
  have hlocks := B.notSynchronized
  have hl := lv_entry ([.ref h0, .int p0, .int p1, .int p2]) (n := 5) (Nat.le_of_ble_eq_true rfl)
  rw [lg_entry_eq]
  generalize (lg_sl ([.ref h0, .int p0, .int p1, .int p2]) ++ List.replicate (5 - (lg_sl ([.ref h0, .int p0, .int p1, .int p2])).length) Slot.unset).toArray = ls at hl ⊢
  have hl : lv_has ls 5 [(0, .ref h0), (1, .int p0), (2, .int p1), (3, .int p2)] := hl
  refine lv_aload_n hx hb dX4_placed_0 rfl (lv_at hl 0 rfl) ?_
  refine lv_iload_n hx hb dX4_placed_1 rfl (lv_at hl 1 rfl) ?_
  have hPc := hP.sub (ws' := [(h0, .inr (3, [.ref h1, .ref h2, .ref h4])), (h1, .inl (kS, 4, .inr (.inr (.inr (.inr (fun _ => none))))))]) [0, 1] rfl
  have hKc := hK.sub (tys' := [(kS, .object "SignForms$Stream")]) [0] rfl
  refine va_csq (W.runV (As := [.int p0]) (rest := []) ⟨hx, hb, hml, hown, hts⟩ (kX4_openStream l dC dI h0 h1 h2 h4 kS p0) (cwV 1 hts gX4_placed_X4_openStream rfl rfl rfl (by decide +kernel) ⟨Nat.le_of_ble_eq_true rfl, Nat.le_of_ble_eq_true rfl⟩) ⟨fun a U g mk q => by obtain ⟨q0, qP, qK⟩ := q; exact ⟨q0, qP, va_K.moved (u := U) (U := U.calling g mk a) (Vm.Alike.refl U.vm) qK⟩, va_recv hKc hPc (ci := 3) (q0 := 0) rfl rfl, fun U hU hW => ⟨rfl, by rw [hU]; exact hPc, va_K.moved hW.alike hKc⟩⟩ rfl rfl hl.1 rfl (lv_room (Nat.le_of_ble_eq_true rfl)) dX4_placed_2 ⟨Nat.le_of_ble_eq_true rfl, Nat.le_of_ble_eq_true rfl⟩) (fun r_1 hwr_1 => ?_)
  subst hwr_1
  refine W.eq (g2 := F0 m 5 ls [.null]) rfl ?_
  refine lv_astoreN (lv' := [(4, .null), (0, .ref h0), (1, .int p0), (2, .int p1), (3, .int p2)]) hx hb dX4_placed_5 hl (by decide) rfl (fun ls hl => ?_)
  refine lv_aloadN hx hb dX4_placed_7 (lv_at hl 0 rfl) ?_
  refine lv_ifnullN (tgt := 21) hx hb dX4_placed_9 (by decide) ?_
  refine lv_iconst (v := (-1)) hx hb dX4_placed_21 (by decide) ?_
  exact W.iret (v := (-1)) hx hb hr (fun t ht hW => ⟨(-1), rfl, rfl, ht⟩) (fun q h => by cases h) dX4_placed_22
set_option maxHeartbeats 4000000 in
set_option maxRecDepth 100000 in
theorem kX4_at (l : Launch) (dC : Nat → ClassId) (dI : Nat → Nat → Nat) (h0 h1 h2 h4 : Nat) (kS : ClassId) (p0 : Int32) (p1 : Int32) : Met l yX4_at wsX4_at ({ frames := 2, cells := 0, slots := 0, locals := 42 } : Room) (va_Pc [.ref h0, .int p0, .int p1] (fun U => va_P (dC, dI) vwCl [(h0, .inr (3, [.ref h1, .ref h2, .ref h4])), (h1, .inl (kS, 4, .inr (.inr (.inr (.inr (fun _ => none))))))] U.heap ∧ va_K (dC, dI) vwCl [(kS, .object "SignForms$Stream")] U)) (vp_Si (fun r => r = -1)) 0 0 (fun _ => False) := by
  refine Met.ofW (cc := cX4_at) (maxL := 4) (ret := (some .int)) (by decide) rfl ?_
  intro p e s m args below meth c s₁ B hml hv
  obtain ⟨rfl, hP, hK⟩ := hv
  have hx := B.exec
  have hb := B.bytes
  have hr := B.returns
  have hts := atoms_spec (ws := wsX4_at) B.pre
  have hown : s.vm.findClass RX4 = some m.cls := findClass_of_methodNamed B.named
  have hlocks := B.notSynchronized
  have hl := lv_entry ([.ref h0, .int p0, .int p1]) (n := 4) (Nat.le_of_ble_eq_true rfl)
  rw [lg_entry_eq]
  generalize (lg_sl ([.ref h0, .int p0, .int p1]) ++ List.replicate (4 - (lg_sl ([.ref h0, .int p0, .int p1])).length) Slot.unset).toArray = ls at hl ⊢
  have hl : lv_has ls 4 [(0, .ref h0), (1, .int p0), (2, .int p1)] := hl
  refine lv_aload_n hx hb dX4_at_0 rfl (lv_at hl 0 rfl) ?_
  refine lv_iload_n hx hb dX4_at_1 rfl (lv_at hl 1 rfl) ?_
  have hPc := hP.sub (ws' := [(h0, .inr (3, [.ref h1, .ref h2, .ref h4])), (h1, .inl (kS, 4, .inr (.inr (.inr (.inr (fun _ => none))))))]) [0, 1] rfl
  have hKc := hK.sub (tys' := [(kS, .object "SignForms$Stream")]) [0] rfl
  refine va_csq (W.runV (As := [.int p0]) (rest := []) ⟨hx, hb, hml, hown, hts⟩ (kX4_openStream l dC dI h0 h1 h2 h4 kS p0) (cwV 1 hts gX4_at_X4_openStream rfl rfl rfl (by decide +kernel) ⟨Nat.le_of_ble_eq_true rfl, Nat.le_of_ble_eq_true rfl⟩) ⟨fun a U g mk q => by obtain ⟨q0, qP, qK⟩ := q; exact ⟨q0, qP, va_K.moved (u := U) (U := U.calling g mk a) (Vm.Alike.refl U.vm) qK⟩, va_recv hKc hPc (ci := 3) (q0 := 0) rfl rfl, fun U hU hW => ⟨rfl, by rw [hU]; exact hPc, va_K.moved hW.alike hKc⟩⟩ rfl rfl hl.1 rfl (lv_room (Nat.le_of_ble_eq_true rfl)) dX4_at_2 ⟨Nat.le_of_ble_eq_true rfl, Nat.le_of_ble_eq_true rfl⟩) (fun r_1 hwr_1 => ?_)
  subst hwr_1
  refine W.eq (g2 := F0 m 5 ls [.null]) rfl ?_
  refine lv_astore_nN (lv' := [(3, .null), (0, .ref h0), (1, .int p0), (2, .int p1)]) hx hb dX4_at_5 rfl hl (by decide) rfl (fun ls hl => ?_)
  refine lv_aload_nN hx hb dX4_at_6 rfl (lv_at hl 0 rfl) ?_
  refine lv_ifnonnullN hx hb dX4_at_7 ?_
  refine lv_iconst (v := (-1)) hx hb dX4_at_10 (by decide) ?_
  refine lv_goto (tgt := 19) hx hb dX4_at_11 (by decide) ?_
  exact W.iret (v := (-1)) hx hb hr (fun t ht hW => ⟨(-1), rfl, rfl, ht⟩) (fun q h => by cases h) dX4_at_19
set_option maxHeartbeats 4000000 in
set_option maxRecDepth 100000 in
theorem kX4_write (l : Launch) (dC : Nat → ClassId) (dI : Nat → Nat → Nat) (h0 h1 h2 h4 : Nat) (kS : ClassId) (p0 : Int32) (p1 : Int32) (p2 : Int32) : Met l yX4_write wsX4_write ({ frames := 1, cells := 0, slots := 0, locals := 21 } : Room) (va_Pc [.ref h0, .int p0, .int p1, .int p2] (fun U => va_P (dC, dI) vwCl [(h0, .inr (3, [.ref h1, .ref h2, .ref h4])), (h1, .inl (kS, 4, .inr (.inr (.inr (.inr (fun _ => none))))))] U.heap ∧ va_K (dC, dI) vwCl [(kS, .object "SignForms$Stream")] U)) (vp_Si (fun r => r = an_write p0 p1)) 0 0 (fun _ => False) := by
  refine Met.ofW (cc := cX4_write) (maxL := 7) (ret := (some .int)) (by decide) rfl ?_
  intro p e s m args below meth c s₁ B hml hv
  obtain ⟨rfl, hP, hK⟩ := hv
  have hx := B.exec
  have hb := B.bytes
  have hr := B.returns
  have hts := atoms_spec (ws := wsX4_write) B.pre
  have hown : s.vm.findClass RX4 = some m.cls := findClass_of_methodNamed B.named
  have hlocks := B.notSynchronized
  have hl := lv_entry ([.ref h0, .int p0, .int p1, .int p2]) (n := 7) (Nat.le_of_ble_eq_true rfl)
  rw [lg_entry_eq]
  generalize (lg_sl ([.ref h0, .int p0, .int p1, .int p2]) ++ List.replicate (7 - (lg_sl ([.ref h0, .int p0, .int p1, .int p2])).length) Slot.unset).toArray = ls at hl ⊢
  have hl : lv_has ls 7 [(0, .ref h0), (1, .int p0), (2, .int p1), (3, .int p2)] := hl
  refine lv_aload_n hx hb dX4_write_0 rfl (lv_at hl 0 rfl) ?_
  refine lv_iload_n hx hb dX4_write_1 rfl (lv_at hl 1 rfl) ?_
  have hPc := hP.sub (ws' := [(h0, .inr (3, [.ref h1, .ref h2, .ref h4])), (h1, .inl (kS, 4, .inr (.inr (.inr (.inr (fun _ => none))))))]) [0, 1] rfl
  have hKc := hK.sub (tys' := [(kS, .object "SignForms$Stream")]) [0] rfl
  refine vp_callSi (W.runV (As := [.int p0]) (rest := []) ⟨hx, hb, hml, hown, hts⟩ (kX4_isStream l dC dI h0 h1 h2 h4 kS p0) (cwV 1 hts gX4_write_X4_isStream rfl rfl rfl (by decide +kernel) ⟨Nat.le_of_ble_eq_true rfl, Nat.le_of_ble_eq_true rfl⟩) ⟨fun a U g mk q => by obtain ⟨q0, qP, qK⟩ := q; exact ⟨q0, qP, va_K.moved (u := U) (U := U.calling g mk a) (Vm.Alike.refl U.vm) qK⟩, va_recv hKc hPc (ci := 3) (q0 := 0) rfl rfl, fun U hU hW => ⟨rfl, by rw [hU]; exact hPc, va_K.moved hW.alike hKc⟩⟩ rfl rfl hl.1 rfl (lv_room (Nat.le_of_ble_eq_true rfl)) dX4_write_2 ⟨Nat.le_of_ble_eq_true rfl, Nat.le_of_ble_eq_true rfl⟩) (fun r_1 hwr_1 => ?_)
  rcases hwr_1 with ⟨rfl, hwr_1⟩ | ⟨rfl, hwr_1⟩
  · refine lv_if_eq (tgt := 15) hx hb dX4_write_5 (by decide) (fun c_2 => False.elim (by revert c_2; decide)) (fun _ => ?_)
    refine lv_iload_n hx hb dX4_write_8 rfl (lv_at hl 2 rfl) ?_
    refine vp_callSi (W.runS (As := [.int p1]) (rest := []) ⟨hx, hb, hml, hown, hts⟩ (kX4_isWritable l p1) (va_cwS 1 hts gX4_write_X4_isWritable rfl rfl rfl (by decide +kernel) ⟨Nat.le_of_ble_eq_true rfl, Nat.le_of_ble_eq_true rfl⟩) ⟨fun a U g mk q => q, fun U hU hW => ⟨rfl, trivial⟩⟩ rfl rfl hl.1 rfl (lv_room (Nat.le_of_ble_eq_true rfl)) dX4_write_9 ⟨Nat.le_of_ble_eq_true rfl, Nat.le_of_ble_eq_true rfl⟩) (fun r_3 hwr_3 => ?_)
    rcases hwr_3 with ⟨rfl, hwr_3⟩ | ⟨rfl, hwr_3⟩
    · refine lv_if_ne (tgt := 17) hx hb dX4_write_12 (by decide) (fun _ => ?_) (fun c_4 => False.elim (by revert c_4; decide))
      refine lv_aload_n hx hb dX4_write_17 rfl (lv_at hl 0 rfl) ?_
      refine va_get (D := (dC, dI)) (ci := 3) (v := .ref h1) (C := RX4) (T := TX4) (N := 3) hx hb hts (by decide +kernel) hown hK hP 0 rfl rfl 0 (by decide) (hts (.fieldLink RX4 11 "SignForms" "streams" "[LSignForms$Stream;") (by decide +kernel)) (fun _ h9 => h9) rfl dX4_write_18 ?_
      refine lv_iload_n hx hb dX4_write_21 rfl (lv_at hl 1 rfl) ?_
      refine va_aldq hx hb hK hP 1 0 rfl rfl (vp_in_iff.mpr (by omega)) dX4_write_22 ?_
      refine W.eq (g2 := F0 m 23 ls [.null]) rfl ?_
      refine lv_astoreN (lv' := [(4, .null), (0, .ref h0), (1, .int p0), (2, .int p1), (3, .int p2)]) hx hb dX4_write_23 hl (by decide) rfl (fun ls hl => ?_)
      refine lv_aloadN hx hb dX4_write_25 (lv_at hl 0 rfl) ?_
      refine lv_ifnonnullN hx hb dX4_write_27 ?_
      refine lv_bipush (v := (-2)) hx hb dX4_write_30 (by decide) ?_
      exact W.iret (v := (-2)) hx hb hr (fun t ht hW => ⟨(-2), rfl, by unfold an_write; first | rw [if_pos (by omega)] | rw [if_neg (by omega)], ht⟩) (fun q h => by cases h) dX4_write_32
    · refine lv_if_ne (tgt := 17) hx hb dX4_write_12 (by decide) (fun c_5 => False.elim (by revert c_5; decide)) (fun _ => ?_)
      refine lv_iconst (v := (-1)) hx hb dX4_write_15 (by decide) ?_
      exact W.iret (v := (-1)) hx hb hr (fun t ht hW => ⟨(-1), rfl, by unfold an_write; first | rw [if_pos (by omega)] | rw [if_neg (by omega)], ht⟩) (fun q h => by cases h) dX4_write_16
  · refine lv_if_eq (tgt := 15) hx hb dX4_write_5 (by decide) (fun _ => ?_) (fun c_6 => False.elim (by revert c_6; decide))
    refine lv_iconst (v := (-1)) hx hb dX4_write_15 (by decide) ?_
    exact W.iret (v := (-1)) hx hb hr (fun t ht hW => ⟨(-1), rfl, by unfold an_write; first | rw [if_pos (by omega)] | rw [if_neg (by omega)], ht⟩) (fun q h => by cases h) dX4_write_16
set_option maxHeartbeats 4000000 in
set_option maxRecDepth 100000 in
theorem kX4_size (l : Launch) (dC : Nat → ClassId) (dI : Nat → Nat → Nat) (h0 h1 h2 h4 : Nat) (kS : ClassId) (p0 : Int32) (p1 : Int32) (p2 : Int32) (p3 : Int32) : Met l yX4_size wsX4_size ({ frames := 1, cells := 0, slots := 0, locals := 21 } : Room) (va_Pc [.ref h0, .int p0, .int p1, .int p2, .int p3] (fun U => va_P (dC, dI) vwCl [(h0, .inr (3, [.ref h1, .ref h2, .ref h4])), (h1, .inl (kS, 4, .inr (.inr (.inr (.inr (fun _ => none))))))] U.heap ∧ va_K (dC, dI) vwCl [(kS, .object "SignForms$Stream")] U)) (vp_Si (fun r => r = an_write p0 p1)) 0 0 (fun _ => False) := by
  refine Met.ofW (cc := cX4_size) (maxL := 6) (ret := (some .int)) (by decide) rfl ?_
  intro p e s m args below meth c s₁ B hml hv
  obtain ⟨rfl, hP, hK⟩ := hv
  have hx := B.exec
  have hb := B.bytes
  have hr := B.returns
  have hts := atoms_spec (ws := wsX4_size) B.pre
  have hown : s.vm.findClass RX4 = some m.cls := findClass_of_methodNamed B.named
  have hlocks := B.notSynchronized
  have hl := lv_entry ([.ref h0, .int p0, .int p1, .int p2, .int p3]) (n := 6) (Nat.le_of_ble_eq_true rfl)
  rw [lg_entry_eq]
  generalize (lg_sl ([.ref h0, .int p0, .int p1, .int p2, .int p3]) ++ List.replicate (6 - (lg_sl ([.ref h0, .int p0, .int p1, .int p2, .int p3])).length) Slot.unset).toArray = ls at hl ⊢
  have hl : lv_has ls 6 [(0, .ref h0), (1, .int p0), (2, .int p1), (3, .int p2), (4, .int p3)] := hl
  refine lv_aload_n hx hb dX4_size_0 rfl (lv_at hl 0 rfl) ?_
  refine lv_iload_n hx hb dX4_size_1 rfl (lv_at hl 1 rfl) ?_
  have hPc := hP.sub (ws' := [(h0, .inr (3, [.ref h1, .ref h2, .ref h4])), (h1, .inl (kS, 4, .inr (.inr (.inr (.inr (fun _ => none))))))]) [0, 1] rfl
  have hKc := hK.sub (tys' := [(kS, .object "SignForms$Stream")]) [0] rfl
  refine vp_callSi (W.runV (As := [.int p0]) (rest := []) ⟨hx, hb, hml, hown, hts⟩ (kX4_isStream l dC dI h0 h1 h2 h4 kS p0) (cwV 1 hts gX4_size_X4_isStream rfl rfl rfl (by decide +kernel) ⟨Nat.le_of_ble_eq_true rfl, Nat.le_of_ble_eq_true rfl⟩) ⟨fun a U g mk q => by obtain ⟨q0, qP, qK⟩ := q; exact ⟨q0, qP, va_K.moved (u := U) (U := U.calling g mk a) (Vm.Alike.refl U.vm) qK⟩, va_recv hKc hPc (ci := 3) (q0 := 0) rfl rfl, fun U hU hW => ⟨rfl, by rw [hU]; exact hPc, va_K.moved hW.alike hKc⟩⟩ rfl rfl hl.1 rfl (lv_room (Nat.le_of_ble_eq_true rfl)) dX4_size_2 ⟨Nat.le_of_ble_eq_true rfl, Nat.le_of_ble_eq_true rfl⟩) (fun r_1 hwr_1 => ?_)
  rcases hwr_1 with ⟨rfl, hwr_1⟩ | ⟨rfl, hwr_1⟩
  · refine lv_if_eq (tgt := 15) hx hb dX4_size_5 (by decide) (fun c_2 => False.elim (by revert c_2; decide)) (fun _ => ?_)
    refine lv_iload_n hx hb dX4_size_8 rfl (lv_at hl 2 rfl) ?_
    refine vp_callSi (W.runS (As := [.int p1]) (rest := []) ⟨hx, hb, hml, hown, hts⟩ (kX4_isWritable l p1) (va_cwS 1 hts gX4_size_X4_isWritable rfl rfl rfl (by decide +kernel) ⟨Nat.le_of_ble_eq_true rfl, Nat.le_of_ble_eq_true rfl⟩) ⟨fun a U g mk q => q, fun U hU hW => ⟨rfl, trivial⟩⟩ rfl rfl hl.1 rfl (lv_room (Nat.le_of_ble_eq_true rfl)) dX4_size_9 ⟨Nat.le_of_ble_eq_true rfl, Nat.le_of_ble_eq_true rfl⟩) (fun r_3 hwr_3 => ?_)
    rcases hwr_3 with ⟨rfl, hwr_3⟩ | ⟨rfl, hwr_3⟩
    · refine lv_if_ne (tgt := 17) hx hb dX4_size_12 (by decide) (fun _ => ?_) (fun c_4 => False.elim (by revert c_4; decide))
      refine lv_aload_n hx hb dX4_size_17 rfl (lv_at hl 0 rfl) ?_
      refine va_get (D := (dC, dI)) (ci := 3) (v := .ref h1) (C := RX4) (T := TX4) (N := 3) hx hb hts (by decide +kernel) hown hK hP 0 rfl rfl 0 (by decide) (hts (.fieldLink RX4 11 "SignForms" "streams" "[LSignForms$Stream;") (by decide +kernel)) (fun _ h9 => h9) rfl dX4_size_18 ?_
      refine lv_iload_n hx hb dX4_size_21 rfl (lv_at hl 1 rfl) ?_
      refine va_aldq hx hb hK hP 1 0 rfl rfl (vp_in_iff.mpr (by omega)) dX4_size_22 ?_
      refine W.eq (g2 := F0 m 23 ls [.null]) rfl ?_
      refine lv_astoreN (lv' := [(5, .null), (0, .ref h0), (1, .int p0), (2, .int p1), (3, .int p2), (4, .int p3)]) hx hb dX4_size_23 hl (by decide) rfl (fun ls hl => ?_)
      refine lv_aloadN hx hb dX4_size_25 (lv_at hl 0 rfl) ?_
      refine lv_ifnonnullN hx hb dX4_size_27 ?_
      refine lv_bipush (v := (-2)) hx hb dX4_size_30 (by decide) ?_
      exact W.iret (v := (-2)) hx hb hr (fun t ht hW => ⟨(-2), rfl, by unfold an_write; first | rw [if_pos (by omega)] | rw [if_neg (by omega)], ht⟩) (fun q h => by cases h) dX4_size_32
    · refine lv_if_ne (tgt := 17) hx hb dX4_size_12 (by decide) (fun c_5 => False.elim (by revert c_5; decide)) (fun _ => ?_)
      refine lv_iconst (v := (-1)) hx hb dX4_size_15 (by decide) ?_
      exact W.iret (v := (-1)) hx hb hr (fun t ht hW => ⟨(-1), rfl, by unfold an_write; first | rw [if_pos (by omega)] | rw [if_neg (by omega)], ht⟩) (fun q h => by cases h) dX4_size_16
  · refine lv_if_eq (tgt := 15) hx hb dX4_size_5 (by decide) (fun _ => ?_) (fun c_6 => False.elim (by revert c_6; decide))
    refine lv_iconst (v := (-1)) hx hb dX4_size_15 (by decide) ?_
    exact W.iret (v := (-1)) hx hb hr (fun t ht hW => ⟨(-1), rfl, by unfold an_write; first | rw [if_pos (by omega)] | rw [if_neg (by omega)], ht⟩) (fun q h => by cases h) dX4_size_16
set_option maxHeartbeats 4000000 in
set_option maxRecDepth 100000 in
theorem kX4_out (l : Launch) (dC : Nat → ClassId) (dI : Nat → Nat → Nat) (h0 h1 h2 h3 h4 : Nat) (p0 : Int32) : Met l yX4_out wsX4_out ({ frames := 1, cells := 0, slots := 0, locals := 21 } : Room) (va_Pc [.ref h0, .int p0] (fun U => va_P (dC, dI) vwCl [(h0, .inr (3, [.ref h1, .ref h2, .ref h4])), (h2, .inr (0, [.ref h3, .int 0]))] U.heap ∧ va_K (dC, dI) vwCl [] U)) (vp_Si (fun r => r = -1)) 0 0 (fun _ => False) := by
  refine Met.ofW (cc := cX4_out) (maxL := 2) (ret := (some .int)) (by decide) rfl ?_
  intro p e s m args below meth c s₁ B hml hv
  obtain ⟨rfl, hP, hK⟩ := hv
  have hx := B.exec
  have hb := B.bytes
  have hr := B.returns
  have hts := atoms_spec (ws := wsX4_out) B.pre
  have hown : s.vm.findClass RX4 = some m.cls := findClass_of_methodNamed B.named
  have hlocks := B.notSynchronized
  have hl := lv_entry ([.ref h0, .int p0]) (n := 2) (Nat.le_of_ble_eq_true rfl)
  rw [lg_entry_eq]
  generalize (lg_sl ([.ref h0, .int p0]) ++ List.replicate (2 - (lg_sl ([.ref h0, .int p0])).length) Slot.unset).toArray = ls at hl ⊢
  have hl : lv_has ls 2 [(0, .ref h0), (1, .int p0)] := hl
  refine lv_aload_n hx hb dX4_out_0 rfl (lv_at hl 0 rfl) ?_
  refine va_get (D := (dC, dI)) (ci := 3) (v := .ref h2) (C := RX4) (T := TX4) (N := 3) hx hb hts (by decide +kernel) hown hK hP 0 rfl rfl 1 (by decide) (hts (.fieldLink RX4 18 "SignForms" "outRow" "LSignForms$OutRow;") (by decide +kernel)) (fun _ h9 => h9) rfl dX4_out_1 ?_
  refine lv_iload_n hx hb dX4_out_4 rfl (lv_at hl 1 rfl) ?_
  have hPc := hP.sub (ws' := [(h2, .inr (0, [.ref h3, .int 0]))]) [1] rfl
  have hKc := hK.sub (tys' := []) [] rfl
  refine vp_callSi (W.runV (As := [.int p0]) (rest := []) ⟨hx, hb, hml, hown, hts⟩ (kX1_byteAt l dC dI h2 h3 p0) (cwV 1 hts gX4_out_X1_byteAt rfl rfl rfl (by decide +kernel) ⟨Nat.le_of_ble_eq_true rfl, Nat.le_of_ble_eq_true rfl⟩) ⟨fun a U g mk q => by obtain ⟨q0, qP, qK⟩ := q; exact ⟨q0, qP, va_K.moved (u := U) (U := U.calling g mk a) (Vm.Alike.refl U.vm) qK⟩, va_recv hKc hPc (ci := 0) (q0 := 0) rfl rfl, fun U hU hW => ⟨rfl, by rw [hU]; exact hPc, va_K.moved hW.alike hKc⟩⟩ rfl rfl hl.1 rfl (lv_room (Nat.le_of_ble_eq_true rfl)) dX4_out_5 ⟨Nat.le_of_ble_eq_true rfl, Nat.le_of_ble_eq_true rfl⟩) (fun r_1 hwr_1 => ?_)
  subst hwr_1
  exact W.iret (v := (-1)) hx hb hr (fun t ht hW => ⟨(-1), rfl, rfl, ht⟩) (fun q h => by cases h) dX4_out_8
set_option maxHeartbeats 4000000 in
set_option maxRecDepth 100000 in
theorem kX4_check (l : Launch) (dC : Nat → ClassId) (dI : Nat → Nat → Nat) (h0 h1 h2 h3 h4 : Nat) (p0 : Int32) : Met l yX4_check wsX4_check ({ frames := 1, cells := 0, slots := 0, locals := 20 } : Room) (va_Pc [.ref h0, .int p0] (fun U => va_P (dC, dI) vwCl [(h0, .inr (3, [.ref h1, .ref h2, .ref h4])), (h2, .inr (0, [.ref h3, .int 0]))] U.heap ∧ va_K (dC, dI) vwCl [] U)) (vp_Si (fun r => r = an_check p0)) 0 0 (fun _ => False) := by
  refine Met.ofW (cc := cX4_check) (maxL := 4) (ret := (some .int)) (by decide) rfl ?_
  intro p e s m args below meth c s₁ B hml hv
  obtain ⟨rfl, hP, hK⟩ := hv
  have hx := B.exec
  have hb := B.bytes
  have hr := B.returns
  have hts := atoms_spec (ws := wsX4_check) B.pre
  have hown : s.vm.findClass RX4 = some m.cls := findClass_of_methodNamed B.named
  have hlocks := B.notSynchronized
  have hl := lv_entry ([.ref h0, .int p0]) (n := 4) (Nat.le_of_ble_eq_true rfl)
  rw [lg_entry_eq]
  generalize (lg_sl ([.ref h0, .int p0]) ++ List.replicate (4 - (lg_sl ([.ref h0, .int p0])).length) Slot.unset).toArray = ls at hl ⊢
  have hl : lv_has ls 4 [(0, .ref h0), (1, .int p0)] := hl
  refine lv_iload_n hx hb dX4_check_0 rfl (lv_at hl 1 rfl) ?_
  refine vp_callSi (W.runS (As := [.int p0]) (rest := []) ⟨hx, hb, hml, hown, hts⟩ (kX4_isWritable l p0) (va_cwS 1 hts gX4_check_X4_isWritable rfl rfl rfl (by decide +kernel) ⟨Nat.le_of_ble_eq_true rfl, Nat.le_of_ble_eq_true rfl⟩) ⟨fun a U g mk q => q, fun U hU hW => ⟨rfl, trivial⟩⟩ rfl rfl hl.1 rfl (lv_room (Nat.le_of_ble_eq_true rfl)) dX4_check_1 ⟨Nat.le_of_ble_eq_true rfl, Nat.le_of_ble_eq_true rfl⟩) (fun r_1 hwr_1 => ?_)
  rcases hwr_1 with ⟨rfl, hwr_1⟩ | ⟨rfl, hwr_1⟩
  · refine lv_if_ne (tgt := 9) hx hb dX4_check_4 (by decide) (fun _ => ?_) (fun c_2 => False.elim (by revert c_2; decide))
    refine lv_iconst (v := 0) hx hb dX4_check_9 (by decide) ?_
    refine lv_istore_n (lv' := [(2, .int 0), (0, .ref h0), (1, .int p0)]) hx hb dX4_check_10 rfl hl (by decide) rfl (fun ls hl => ?_)
    refine lv_iconst (v := 0) hx hb dX4_check_11 (by decide) ?_
    refine lv_istore_n (lv' := [(3, .int 0), (2, .int 0), (0, .ref h0), (1, .int p0)]) hx hb dX4_check_12 rfl hl (by decide) rfl (fun ls hl => ?_)
    refine lv_iload_n hx hb dX4_check_13 rfl (lv_at hl 0 rfl) ?_
    refine lv_sipush (v := 6000) hx hb dX4_check_14 (by decide) ?_
    refine lv_icmp_ge (tgt := 83) hx hb dX4_check_17 (by decide) (fun c_3 => False.elim (by revert c_3; decide)) (fun _ => ?_)
    refine lv_iload_n hx hb dX4_check_20 rfl (lv_at hl 1 rfl) ?_
    refine lv_aload_n hx hb dX4_check_21 rfl (lv_at hl 2 rfl) ?_
    refine va_get (D := (dC, dI)) (ci := 3) (v := .ref h2) (C := RX4) (T := TX4) (N := 3) hx hb hts (by decide +kernel) hown hK hP 0 rfl rfl 1 (by decide) (hts (.fieldLink RX4 18 "SignForms" "outRow" "LSignForms$OutRow;") (by decide +kernel)) (fun _ h9 => h9) rfl dX4_check_22 ?_
    refine va_get (D := (dC, dI)) (ci := 0) (v := .int 0) (C := RX1) (T := TX1) (N := 2) hx hb hts (by decide +kernel) hown hK hP 1 rfl rfl 1 (by decide) (hts (.fieldLink RX4 56 "SignForms$OutRow" "count" "I") (by decide +kernel)) (fun _ h9 => h9) rfl dX4_check_25 ?_
    refine lv_icmp_ge (tgt := 83) hx hb dX4_check_28 (by decide) (fun _ => ?_) (fun c_4 => False.elim (by revert c_4; decide))
    refine lv_bipush (v := (-2)) hx hb dX4_check_83 (by decide) ?_
    exact W.iret (v := (-2)) hx hb hr (fun t ht hW => ⟨(-2), rfl, by unfold an_check; first | rw [if_pos (by omega)] | rw [if_neg (by omega)], ht⟩) (fun q h => by cases h) dX4_check_85
  · refine lv_if_ne (tgt := 9) hx hb dX4_check_4 (by decide) (fun c_5 => False.elim (by revert c_5; decide)) (fun _ => ?_)
    refine lv_iconst (v := (-1)) hx hb dX4_check_7 (by decide) ?_
    exact W.iret (v := (-1)) hx hb hr (fun t ht hW => ⟨(-1), rfl, by unfold an_check; first | rw [if_pos (by omega)] | rw [if_neg (by omega)], ht⟩) (fun q h => by cases h) dX4_check_8
set_option maxHeartbeats 4000000 in
set_option maxRecDepth 100000 in
theorem kX4_order (l : Launch) (dC : Nat → ClassId) (dI : Nat → Nat → Nat) (h0 h1 h2 h4 : Nat) (kS : ClassId) (p0 : Int32) (p1 : Int32) (p2 : Int32) : Met l yX4_order wsX4_order ({ frames := 1, cells := 0, slots := 0, locals := 21 } : Room) (va_Pc [.ref h0, .int p0, .int p1, .int p2] (fun U => va_P (dC, dI) vwCl [(h0, .inr (3, [.ref h1, .ref h2, .ref h4])), (h1, .inl (kS, 4, .inr (.inr (.inr (.inr (fun _ => none))))))] U.heap ∧ va_K (dC, dI) vwCl [(kS, .object "SignForms$Stream")] U)) (vp_Si (fun r => r = an_order p0 p1 p2)) 0 0 (fun _ => False) := by
  refine Met.ofW (cc := cX4_order) (maxL := 8) (ret := (some .int)) (by decide) rfl ?_
  intro p e s m args below meth c s₁ B hml hv
  obtain ⟨rfl, hP, hK⟩ := hv
  have hx := B.exec
  have hb := B.bytes
  have hr := B.returns
  have hts := atoms_spec (ws := wsX4_order) B.pre
  have hown : s.vm.findClass RX4 = some m.cls := findClass_of_methodNamed B.named
  have hlocks := B.notSynchronized
  have hl := lv_entry ([.ref h0, .int p0, .int p1, .int p2]) (n := 8) (Nat.le_of_ble_eq_true rfl)
  rw [lg_entry_eq]
  generalize (lg_sl ([.ref h0, .int p0, .int p1, .int p2]) ++ List.replicate (8 - (lg_sl ([.ref h0, .int p0, .int p1, .int p2])).length) Slot.unset).toArray = ls at hl ⊢
  have hl : lv_has ls 8 [(0, .ref h0), (1, .int p0), (2, .int p1), (3, .int p2)] := hl
  refine lv_aload_n hx hb dX4_order_0 rfl (lv_at hl 0 rfl) ?_
  refine lv_iload_n hx hb dX4_order_1 rfl (lv_at hl 1 rfl) ?_
  have hPc := hP.sub (ws' := [(h0, .inr (3, [.ref h1, .ref h2, .ref h4])), (h1, .inl (kS, 4, .inr (.inr (.inr (.inr (fun _ => none))))))]) [0, 1] rfl
  have hKc := hK.sub (tys' := [(kS, .object "SignForms$Stream")]) [0] rfl
  refine vp_callSi (W.runV (As := [.int p0]) (rest := []) ⟨hx, hb, hml, hown, hts⟩ (kX4_isStream l dC dI h0 h1 h2 h4 kS p0) (cwV 1 hts gX4_order_X4_isStream rfl rfl rfl (by decide +kernel) ⟨Nat.le_of_ble_eq_true rfl, Nat.le_of_ble_eq_true rfl⟩) ⟨fun a U g mk q => by obtain ⟨q0, qP, qK⟩ := q; exact ⟨q0, qP, va_K.moved (u := U) (U := U.calling g mk a) (Vm.Alike.refl U.vm) qK⟩, va_recv hKc hPc (ci := 3) (q0 := 0) rfl rfl, fun U hU hW => ⟨rfl, by rw [hU]; exact hPc, va_K.moved hW.alike hKc⟩⟩ rfl rfl hl.1 rfl (lv_room (Nat.le_of_ble_eq_true rfl)) dX4_order_2 ⟨Nat.le_of_ble_eq_true rfl, Nat.le_of_ble_eq_true rfl⟩) (fun r_1 hwr_1 => ?_)
  rcases hwr_1 with ⟨rfl, hwr_1⟩ | ⟨rfl, hwr_1⟩
  · refine lv_if_eq (tgt := 25) hx hb dX4_order_5 (by decide) (fun c_2 => False.elim (by revert c_2; decide)) (fun _ => ?_)
    refine lv_aload_n hx hb dX4_order_8 rfl (lv_at hl 0 rfl) ?_
    refine lv_iload_n hx hb dX4_order_9 rfl (lv_at hl 2 rfl) ?_
    have hPc := hP.sub (ws' := [(h0, .inr (3, [.ref h1, .ref h2, .ref h4])), (h1, .inl (kS, 4, .inr (.inr (.inr (.inr (fun _ => none))))))]) [0, 1] rfl
    have hKc := hK.sub (tys' := [(kS, .object "SignForms$Stream")]) [0] rfl
    refine vp_callSi (W.runV (As := [.int p1]) (rest := []) ⟨hx, hb, hml, hown, hts⟩ (kX4_isStream l dC dI h0 h1 h2 h4 kS p1) (cwV 1 hts gX4_order_X4_isStream rfl rfl rfl (by decide +kernel) ⟨Nat.le_of_ble_eq_true rfl, Nat.le_of_ble_eq_true rfl⟩) ⟨fun a U g mk q => by obtain ⟨q0, qP, qK⟩ := q; exact ⟨q0, qP, va_K.moved (u := U) (U := U.calling g mk a) (Vm.Alike.refl U.vm) qK⟩, va_recv hKc hPc (ci := 3) (q0 := 0) rfl rfl, fun U hU hW => ⟨rfl, by rw [hU]; exact hPc, va_K.moved hW.alike hKc⟩⟩ rfl rfl hl.1 rfl (lv_room (Nat.le_of_ble_eq_true rfl)) dX4_order_10 ⟨Nat.le_of_ble_eq_true rfl, Nat.le_of_ble_eq_true rfl⟩) (fun r_3 hwr_3 => ?_)
    rcases hwr_3 with ⟨rfl, hwr_3⟩ | ⟨rfl, hwr_3⟩
    · refine lv_if_eq (tgt := 25) hx hb dX4_order_13 (by decide) (fun c_4 => False.elim (by revert c_4; decide)) (fun _ => ?_)
      refine lv_iload_n hx hb dX4_order_16 rfl (lv_at hl 3 rfl) ?_
      refine lv_if_lt (tgt := 25) hx hb dX4_order_17 (by decide) (fun c_5 => ?_) (fun c_5 => ?_)
      · have zc_5 : p2.toInt < (0 : Int) := zz_lt rfl (by decide) c_5
        refine lv_iconst (v := (-1)) hx hb dX4_order_25 (by decide) ?_
        exact W.iret (v := (-1)) hx hb hr (fun t ht hW => ⟨(-1), rfl, by unfold an_order; first | rw [if_pos (by omega)] | rw [if_neg (by omega)], ht⟩) (fun q h => by cases h) dX4_order_26
      · have zc_5 : p2.toInt ≥ (0 : Int) := zz_nlt rfl (by decide) c_5
        refine lv_iload_n hx hb dX4_order_20 rfl (lv_at hl 3 rfl) ?_
        refine lv_iconst (v := 2) hx hb dX4_order_21 (by decide) ?_
        refine lv_icmp_le (tgt := 27) hx hb dX4_order_22 (by decide) (fun c_6 => ?_) (fun c_6 => ?_)
        · have zc_6 : p2.toInt ≤ (2 : Int) := zz_le rfl (by decide) c_6
          refine lv_aload_n hx hb dX4_order_27 rfl (lv_at hl 0 rfl) ?_
          refine va_get (D := (dC, dI)) (ci := 3) (v := .ref h1) (C := RX4) (T := TX4) (N := 3) hx hb hts (by decide +kernel) hown hK hP 0 rfl rfl 0 (by decide) (hts (.fieldLink RX4 11 "SignForms" "streams" "[LSignForms$Stream;") (by decide +kernel)) (fun _ h9 => h9) rfl dX4_order_28 ?_
          refine lv_iload_n hx hb dX4_order_31 rfl (lv_at hl 1 rfl) ?_
          refine va_aldq hx hb hK hP 1 0 rfl rfl (vp_in_iff.mpr (by omega)) dX4_order_32 ?_
          refine W.eq (g2 := F0 m 33 ls [.null]) rfl ?_
          refine lv_astoreN (lv' := [(4, .null), (0, .ref h0), (1, .int p0), (2, .int p1), (3, .int p2)]) hx hb dX4_order_33 hl (by decide) rfl (fun ls hl => ?_)
          refine lv_aload_n hx hb dX4_order_35 rfl (lv_at hl 1 rfl) ?_
          refine va_get (D := (dC, dI)) (ci := 3) (v := .ref h1) (C := RX4) (T := TX4) (N := 3) hx hb hts (by decide +kernel) hown hK hP 0 rfl rfl 0 (by decide) (hts (.fieldLink RX4 11 "SignForms" "streams" "[LSignForms$Stream;") (by decide +kernel)) (fun _ h9 => h9) rfl dX4_order_36 ?_
          refine lv_iload_n hx hb dX4_order_39 rfl (lv_at hl 3 rfl) ?_
          refine va_aldq hx hb hK hP 1 0 rfl rfl (vp_in_iff.mpr (by omega)) dX4_order_40 ?_
          refine W.eq (g2 := F0 m 41 ls [.null]) rfl ?_
          refine lv_astoreN (lv' := [(5, .null), (4, .null), (0, .ref h0), (1, .int p0), (2, .int p1), (3, .int p2)]) hx hb dX4_order_41 hl (by decide) rfl (fun ls hl => ?_)
          refine lv_aloadN hx hb dX4_order_43 (lv_at hl 1 rfl) ?_
          refine lv_ifnullN (tgt := 53) hx hb dX4_order_45 (by decide) ?_
          refine lv_bipush (v := (-2)) hx hb dX4_order_53 (by decide) ?_
          exact W.iret (v := (-2)) hx hb hr (fun t ht hW => ⟨(-2), rfl, by unfold an_order; first | rw [if_pos (by omega)] | rw [if_neg (by omega)], ht⟩) (fun q h => by cases h) dX4_order_55
        · have zc_6 : p2.toInt > (2 : Int) := zz_nle rfl (by decide) c_6
          refine lv_iconst (v := (-1)) hx hb dX4_order_25 (by decide) ?_
          exact W.iret (v := (-1)) hx hb hr (fun t ht hW => ⟨(-1), rfl, by unfold an_order; first | rw [if_pos (by omega)] | rw [if_neg (by omega)], ht⟩) (fun q h => by cases h) dX4_order_26
    · refine lv_if_eq (tgt := 25) hx hb dX4_order_13 (by decide) (fun _ => ?_) (fun c_7 => False.elim (by revert c_7; decide))
      refine lv_iconst (v := (-1)) hx hb dX4_order_25 (by decide) ?_
      exact W.iret (v := (-1)) hx hb hr (fun t ht hW => ⟨(-1), rfl, by unfold an_order; first | rw [if_pos (by omega)] | rw [if_neg (by omega)], ht⟩) (fun q h => by cases h) dX4_order_26
  · refine lv_if_eq (tgt := 25) hx hb dX4_order_5 (by decide) (fun _ => ?_) (fun c_8 => False.elim (by revert c_8; decide))
    refine lv_iconst (v := (-1)) hx hb dX4_order_25 (by decide) ?_
    exact W.iret (v := (-1)) hx hb hr (fun t ht hW => ⟨(-1), rfl, by unfold an_order; first | rw [if_pos (by omega)] | rw [if_neg (by omega)], ht⟩) (fun q h => by cases h) dX4_order_26
set_option maxHeartbeats 4000000 in
set_option maxRecDepth 100000 in
theorem kX4_among (l : Launch) (dC : Nat → ClassId) (dI : Nat → Nat → Nat) (h0 h1 h2 h4 : Nat) (kS : ClassId) (p0 : Int32) (p1 : Int32) (p2 : Int32) : Met l yX4_among wsX4_among ({ frames := 1, cells := 0, slots := 0, locals := 21 } : Room) (va_Pc [.ref h0, .int p0, .int p1, .int p2] (fun U => va_P (dC, dI) vwCl [(h0, .inr (3, [.ref h1, .ref h2, .ref h4])), (h1, .inl (kS, 4, .inr (.inr (.inr (.inr (fun _ => none))))))] U.heap ∧ va_K (dC, dI) vwCl [(kS, .object "SignForms$Stream")] U)) (vp_Si (fun r => r = an_end p0)) 0 0 (fun _ => False) := by
  refine Met.ofW (cc := cX4_among) (maxL := 5) (ret := (some .int)) (by decide) rfl ?_
  intro p e s m args below meth c s₁ B hml hv
  obtain ⟨rfl, hP, hK⟩ := hv
  have hx := B.exec
  have hb := B.bytes
  have hr := B.returns
  have hts := atoms_spec (ws := wsX4_among) B.pre
  have hown : s.vm.findClass RX4 = some m.cls := findClass_of_methodNamed B.named
  have hlocks := B.notSynchronized
  have hl := lv_entry ([.ref h0, .int p0, .int p1, .int p2]) (n := 5) (Nat.le_of_ble_eq_true rfl)
  rw [lg_entry_eq]
  generalize (lg_sl ([.ref h0, .int p0, .int p1, .int p2]) ++ List.replicate (5 - (lg_sl ([.ref h0, .int p0, .int p1, .int p2])).length) Slot.unset).toArray = ls at hl ⊢
  have hl : lv_has ls 5 [(0, .ref h0), (1, .int p0), (2, .int p1), (3, .int p2)] := hl
  refine lv_aload_n hx hb dX4_among_0 rfl (lv_at hl 0 rfl) ?_
  refine lv_iload_n hx hb dX4_among_1 rfl (lv_at hl 1 rfl) ?_
  have hPc := hP.sub (ws' := [(h0, .inr (3, [.ref h1, .ref h2, .ref h4])), (h1, .inl (kS, 4, .inr (.inr (.inr (.inr (fun _ => none))))))]) [0, 1] rfl
  have hKc := hK.sub (tys' := [(kS, .object "SignForms$Stream")]) [0] rfl
  refine vp_callSi (W.runV (As := [.int p0]) (rest := []) ⟨hx, hb, hml, hown, hts⟩ (kX4_isStream l dC dI h0 h1 h2 h4 kS p0) (cwV 1 hts gX4_among_X4_isStream rfl rfl rfl (by decide +kernel) ⟨Nat.le_of_ble_eq_true rfl, Nat.le_of_ble_eq_true rfl⟩) ⟨fun a U g mk q => by obtain ⟨q0, qP, qK⟩ := q; exact ⟨q0, qP, va_K.moved (u := U) (U := U.calling g mk a) (Vm.Alike.refl U.vm) qK⟩, va_recv hKc hPc (ci := 3) (q0 := 0) rfl rfl, fun U hU hW => ⟨rfl, by rw [hU]; exact hPc, va_K.moved hW.alike hKc⟩⟩ rfl rfl hl.1 rfl (lv_room (Nat.le_of_ble_eq_true rfl)) dX4_among_2 ⟨Nat.le_of_ble_eq_true rfl, Nat.le_of_ble_eq_true rfl⟩) (fun r_1 hwr_1 => ?_)
  rcases hwr_1 with ⟨rfl, hwr_1⟩ | ⟨rfl, hwr_1⟩
  · refine lv_if_ne (tgt := 10) hx hb dX4_among_5 (by decide) (fun _ => ?_) (fun c_2 => False.elim (by revert c_2; decide))
    refine lv_aload_n hx hb dX4_among_10 rfl (lv_at hl 0 rfl) ?_
    refine va_get (D := (dC, dI)) (ci := 3) (v := .ref h1) (C := RX4) (T := TX4) (N := 3) hx hb hts (by decide +kernel) hown hK hP 0 rfl rfl 0 (by decide) (hts (.fieldLink RX4 11 "SignForms" "streams" "[LSignForms$Stream;") (by decide +kernel)) (fun _ h9 => h9) rfl dX4_among_11 ?_
    refine lv_iload_n hx hb dX4_among_14 rfl (lv_at hl 1 rfl) ?_
    refine va_aldq hx hb hK hP 1 0 rfl rfl (vp_in_iff.mpr (by omega)) dX4_among_15 ?_
    refine W.eq (g2 := F0 m 16 ls [.null]) rfl ?_
    refine lv_astoreN (lv' := [(4, .null), (0, .ref h0), (1, .int p0), (2, .int p1), (3, .int p2)]) hx hb dX4_among_16 hl (by decide) rfl (fun ls hl => ?_)
    refine lv_aloadN hx hb dX4_among_18 (lv_at hl 0 rfl) ?_
    refine lv_ifnonnullN hx hb dX4_among_20 ?_
    refine lv_bipush (v := (-2)) hx hb dX4_among_23 (by decide) ?_
    refine lv_goto (tgt := 35) hx hb dX4_among_25 (by decide) ?_
    exact W.iret (v := (-2)) hx hb hr (fun t ht hW => ⟨(-2), rfl, by unfold an_end; first | rw [if_pos (by omega)] | rw [if_neg (by omega)], ht⟩) (fun q h => by cases h) dX4_among_35
  · refine lv_if_ne (tgt := 10) hx hb dX4_among_5 (by decide) (fun c_3 => False.elim (by revert c_3; decide)) (fun _ => ?_)
    refine lv_iconst (v := (-1)) hx hb dX4_among_8 (by decide) ?_
    exact W.iret (v := (-1)) hx hb hr (fun t ht hW => ⟨(-1), rfl, by unfold an_end; first | rw [if_pos (by omega)] | rw [if_neg (by omega)], ht⟩) (fun q h => by cases h) dX4_among_9
