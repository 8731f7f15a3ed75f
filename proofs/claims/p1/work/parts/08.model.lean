set_option maxHeartbeats 4000000 in
set_option maxRecDepth 100000 in
theorem kX5_isStream (l : Launch) (p0 : Int32) : Met l yX5_isStream wsX5_isStream ({ frames := 0, cells := 0, slots := 0, locals := 0 } : Room) (va_Pc [.int p0] (fun _ => True)) (vp_Si (fun r => (r = 1 ∧ (0 ≤ p0.toInt ∧ p0.toInt < 4)) ∨ (r = 0 ∧ ¬ (0 ≤ p0.toInt ∧ p0.toInt < 4)))) 0 0 (fun _ => False) := by
  refine Met.ofW (cc := cX5_isStream) (maxL := 1) (ret := (some .boolean)) (by decide) rfl ?_
  intro p e s m args below meth c s₁ B hml hv
  obtain ⟨rfl, -⟩ := hv
  have hx := B.exec
  have hb := B.bytes
  have hr := B.returns
  have hts := atoms_spec (ws := wsX5_isStream) B.pre
  have hown : s.vm.findClass RX5 = some m.cls := findClass_of_methodNamed B.named
  have hlocks := B.notSynchronized
  have hl := lv_entry ([.int p0]) (n := 1) (Nat.le_of_ble_eq_true rfl)
  rw [lg_entry_eq]
  generalize (lg_sl ([.int p0]) ++ List.replicate (1 - (lg_sl ([.int p0])).length) Slot.unset).toArray = ls at hl ⊢
  have hl : lv_has ls 1 [(0, .int p0)] := hl
  refine lv_iload_n hx hb dX5_isStream_0 rfl (lv_at hl 0 rfl) ?_
  refine lv_if_lt (tgt := 13) hx hb dX5_isStream_1 (by decide) (fun c_1 => ?_) (fun c_1 => ?_)
  · have zc_1 : p0.toInt < (0 : Int) := zz_lt rfl (by decide) c_1
    refine lv_iconst (v := 0) hx hb dX5_isStream_13 (by decide) ?_
    exact W.zret (v := 0) hx hb hr rfl (fun t ht hW => ⟨0, rfl, Or.inr ⟨rfl, by omega⟩, ht⟩) (fun q h => by cases h) dX5_isStream_14
  · have zc_1 : p0.toInt ≥ (0 : Int) := zz_nlt rfl (by decide) c_1
    refine lv_iload_n hx hb dX5_isStream_4 rfl (lv_at hl 0 rfl) ?_
    refine lv_iconst (v := 4) hx hb dX5_isStream_5 (by decide) ?_
    refine lv_icmp_ge (tgt := 13) hx hb dX5_isStream_6 (by decide) (fun c_2 => ?_) (fun c_2 => ?_)
    · have zc_2 : (4 : Int) ≤ p0.toInt := zz_le (by decide) rfl c_2
      refine lv_iconst (v := 0) hx hb dX5_isStream_13 (by decide) ?_
      exact W.zret (v := 0) hx hb hr rfl (fun t ht hW => ⟨0, rfl, Or.inr ⟨rfl, by omega⟩, ht⟩) (fun q h => by cases h) dX5_isStream_14
    · have zc_2 : (4 : Int) > p0.toInt := zz_nle (by decide) rfl c_2
      refine lv_iconst (v := 1) hx hb dX5_isStream_9 (by decide) ?_
      refine lv_goto (tgt := 14) hx hb dX5_isStream_10 (by decide) ?_
      exact W.zret (v := 1) hx hb hr rfl (fun t ht hW => ⟨1, rfl, Or.inl ⟨rfl, by omega⟩, ht⟩) (fun q h => by cases h) dX5_isStream_14
set_option maxHeartbeats 4000000 in
set_option maxRecDepth 100000 in
theorem kX5_isForm (l : Launch) (p0 : Int32) : Met l yX5_isForm wsX5_isForm ({ frames := 0, cells := 0, slots := 0, locals := 0 } : Room) (va_Pc [.int p0] (fun _ => True)) (vp_Si (fun r => (r = 1 ∧ (0 ≤ p0.toInt ∧ p0.toInt ≤ 5)) ∨ (r = 0 ∧ ¬ (0 ≤ p0.toInt ∧ p0.toInt ≤ 5)))) 0 0 (fun _ => False) := by
  refine Met.ofW (cc := cX5_isForm) (maxL := 1) (ret := (some .boolean)) (by decide) rfl ?_
  intro p e s m args below meth c s₁ B hml hv
  obtain ⟨rfl, -⟩ := hv
  have hx := B.exec
  have hb := B.bytes
  have hr := B.returns
  have hts := atoms_spec (ws := wsX5_isForm) B.pre
  have hown : s.vm.findClass RX5 = some m.cls := findClass_of_methodNamed B.named
  have hlocks := B.notSynchronized
  have hl := lv_entry ([.int p0]) (n := 1) (Nat.le_of_ble_eq_true rfl)
  rw [lg_entry_eq]
  generalize (lg_sl ([.int p0]) ++ List.replicate (1 - (lg_sl ([.int p0])).length) Slot.unset).toArray = ls at hl ⊢
  have hl : lv_has ls 1 [(0, .int p0)] := hl
  refine lv_iload_n hx hb dX5_isForm_0 rfl (lv_at hl 0 rfl) ?_
  refine lv_if_lt (tgt := 14) hx hb dX5_isForm_1 (by decide) (fun c_1 => ?_) (fun c_1 => ?_)
  · have zc_1 : p0.toInt < (0 : Int) := zz_lt rfl (by decide) c_1
    refine lv_iconst (v := 0) hx hb dX5_isForm_14 (by decide) ?_
    exact W.zret (v := 0) hx hb hr rfl (fun t ht hW => ⟨0, rfl, Or.inr ⟨rfl, by omega⟩, ht⟩) (fun q h => by cases h) dX5_isForm_15
  · have zc_1 : p0.toInt ≥ (0 : Int) := zz_nlt rfl (by decide) c_1
    refine lv_iload_n hx hb dX5_isForm_4 rfl (lv_at hl 0 rfl) ?_
    refine lv_bipush (v := 6) hx hb dX5_isForm_5 (by decide) ?_
    refine lv_icmp_ge (tgt := 14) hx hb dX5_isForm_7 (by decide) (fun c_2 => ?_) (fun c_2 => ?_)
    · have zc_2 : (6 : Int) ≤ p0.toInt := zz_le (by decide) rfl c_2
      refine lv_iconst (v := 0) hx hb dX5_isForm_14 (by decide) ?_
      exact W.zret (v := 0) hx hb hr rfl (fun t ht hW => ⟨0, rfl, Or.inr ⟨rfl, by omega⟩, ht⟩) (fun q h => by cases h) dX5_isForm_15
    · have zc_2 : (6 : Int) > p0.toInt := zz_nle (by decide) rfl c_2
      refine lv_iconst (v := 1) hx hb dX5_isForm_10 (by decide) ?_
      refine lv_goto (tgt := 15) hx hb dX5_isForm_11 (by decide) ?_
      exact W.zret (v := 1) hx hb hr rfl (fun t ht hW => ⟨1, rfl, Or.inl ⟨rfl, by omega⟩, ht⟩) (fun q h => by cases h) dX5_isForm_15
set_option maxHeartbeats 4000000 in
set_option maxRecDepth 100000 in
theorem kX5_takes (l : Launch) (dC : Nat → ClassId) (dI : Nat → Nat → Nat) (g0 g1 g2 g3 g4 g5 g6 g7 g8 g9 g10 g11 g12 g13 g14 g15 g16 g17 g18 g19 : Nat) (kZ : ClassId) (p0 : Int32) (hs : 0 ≤ p0.toInt ∧ p0.toInt < 4) : Met l yX5_takes wsX5_takes ({ frames := 0, cells := 0, slots := 0, locals := 0 } : Room) (va_Pc [.ref g0, .int p0] (fun U => va_P (dC, dI) vwCl [(g0, .inr (4, [.ref g1, .ref g2, .ref g3, .ref g4, .ref g5, .ref g6, .ref g7, .ref g8, .ref g9, .ref g10, .ref g11, .ref g12, .ref g13, .ref g14, .ref g15, .ref g16, .ref g17, .ref g18, .int 0, .ref g19, .int 0, .int 0, .int 0])), (g1, .inl (kZ, 4, .inl (fun _ => 0)))] U.heap ∧ va_K (dC, dI) vwCl [(kZ, .boolean)] U)) (vp_Si (fun r => r = 0)) 0 0 (fun _ => False) := by
  refine Met.ofW (cc := cX5_takes) (maxL := 2) (ret := (some .boolean)) (by decide) rfl ?_
  intro p e s m args below meth c s₁ B hml hv
  obtain ⟨rfl, hP, hK⟩ := hv
  have hx := B.exec
  have hb := B.bytes
  have hr := B.returns
  have hts := atoms_spec (ws := wsX5_takes) B.pre
  have hown : s.vm.findClass RX5 = some m.cls := findClass_of_methodNamed B.named
  have hlocks := B.notSynchronized
  have hl := lv_entry ([.ref g0, .int p0]) (n := 2) (Nat.le_of_ble_eq_true rfl)
  rw [lg_entry_eq]
  generalize (lg_sl ([.ref g0, .int p0]) ++ List.replicate (2 - (lg_sl ([.ref g0, .int p0])).length) Slot.unset).toArray = ls at hl ⊢
  have hl : lv_has ls 2 [(0, .ref g0), (1, .int p0)] := hl
  refine lv_aload_n hx hb dX5_takes_0 rfl (lv_at hl 0 rfl) ?_
  refine va_get (D := (dC, dI)) (ci := 4) (v := .ref g1) (C := RX5) (T := TX5) (N := 23) hx hb hts (by decide +kernel) hown hK hP 0 rfl rfl 0 (by decide) (hts (.fieldLink RX5 7 "SignFormsModel" "isOpen" "[Z") (by decide +kernel)) (fun _ h9 => h9) rfl dX5_takes_1 ?_
  refine lv_iload_n hx hb dX5_takes_4 rfl (lv_at hl 1 rfl) ?_
  refine va_zald hx hb hK hP 1 0 rfl rfl (vp_in_iff.mpr (by omega)) dX5_takes_5 ?_
  refine W.eq (g2 := F0 m 6 ls [.int 0]) rfl ?_
  refine lv_if_eq (tgt := 22) hx hb dX5_takes_6 (by decide) (fun _ => ?_) (fun c_1 => False.elim (by revert c_1; decide))
  refine lv_iconst (v := 0) hx hb dX5_takes_22 (by decide) ?_
  exact W.zret (v := 0) hx hb hr rfl (fun t ht hW => ⟨0, rfl, rfl, ht⟩) (fun q h => by cases h) dX5_takes_23
set_option maxHeartbeats 4000000 in
set_option maxRecDepth 100000 in
theorem kX5_isSign (l : Launch) (dC : Nat → ClassId) (dI : Nat → Nat → Nat) (g0 g1 g2 g3 g4 g5 g6 g7 g8 g9 g10 g11 g12 g13 g14 g15 g16 g17 g18 g19 : Nat) (kZ : ClassId) (p0 : Int32) (p1 : Int32) : Met l yX5_isSign wsX5_isSign ({ frames := 1, cells := 0, slots := 0, locals := 20 } : Room) (va_Pc [.ref g0, .int p0, .int p1] (fun U => va_P (dC, dI) vwCl [(g0, .inr (4, [.ref g1, .ref g2, .ref g3, .ref g4, .ref g5, .ref g6, .ref g7, .ref g8, .ref g9, .ref g10, .ref g11, .ref g12, .ref g13, .ref g14, .ref g15, .ref g16, .ref g17, .ref g18, .int 0, .ref g19, .int 0, .int 0, .int 0])), (g1, .inl (kZ, 4, .inl (fun _ => 0)))] U.heap ∧ va_K (dC, dI) vwCl [(kZ, .boolean)] U)) (vp_Si (fun r => r = 0)) 0 0 (fun _ => False) := by
  refine Met.ofW (cc := cX5_isSign) (maxL := 3) (ret := (some .boolean)) (by decide) rfl ?_
  intro p e s m args below meth c s₁ B hml hv
  obtain ⟨rfl, hP, hK⟩ := hv
  have hx := B.exec
  have hb := B.bytes
  have hr := B.returns
  have hts := atoms_spec (ws := wsX5_isSign) B.pre
  have hown : s.vm.findClass RX5 = some m.cls := findClass_of_methodNamed B.named
  have hlocks := B.notSynchronized
  have hl := lv_entry ([.ref g0, .int p0, .int p1]) (n := 3) (Nat.le_of_ble_eq_true rfl)
  rw [lg_entry_eq]
  generalize (lg_sl ([.ref g0, .int p0, .int p1]) ++ List.replicate (3 - (lg_sl ([.ref g0, .int p0, .int p1])).length) Slot.unset).toArray = ls at hl ⊢
  have hl : lv_has ls 3 [(0, .ref g0), (1, .int p0), (2, .int p1)] := hl
  refine lv_iload_n hx hb dX5_isSign_0 rfl (lv_at hl 1 rfl) ?_
  refine vp_callSi (W.runS (As := [.int p0]) (rest := []) ⟨hx, hb, hml, hown, hts⟩ (kX5_isStream l p0) (va_cwS 1 hts gX5_isSign_X5_isStream rfl rfl rfl (by decide +kernel) ⟨Nat.le_of_ble_eq_true rfl, Nat.le_of_ble_eq_true rfl⟩) ⟨fun a U g mk q => q, fun U hU hW => ⟨rfl, trivial⟩⟩ rfl rfl hl.1 rfl (lv_room (Nat.le_of_ble_eq_true rfl)) dX5_isSign_1 ⟨Nat.le_of_ble_eq_true rfl, Nat.le_of_ble_eq_true rfl⟩) (fun r_1 hwr_1 => ?_)
  rcases hwr_1 with ⟨rfl, hwr_1⟩ | ⟨rfl, hwr_1⟩
  · refine lv_if_eq (tgt := 34) hx hb dX5_isSign_4 (by decide) (fun c_2 => False.elim (by revert c_2; decide)) (fun _ => ?_)
    refine lv_aload_n hx hb dX5_isSign_7 rfl (lv_at hl 0 rfl) ?_
    refine va_get (D := (dC, dI)) (ci := 4) (v := .ref g1) (C := RX5) (T := TX5) (N := 23) hx hb hts (by decide +kernel) hown hK hP 0 rfl rfl 0 (by decide) (hts (.fieldLink RX5 7 "SignFormsModel" "isOpen" "[Z") (by decide +kernel)) (fun _ h9 => h9) rfl dX5_isSign_8 ?_
    refine lv_iload_n hx hb dX5_isSign_11 rfl (lv_at hl 1 rfl) ?_
    refine va_zald hx hb hK hP 1 0 rfl rfl (vp_in_iff.mpr (by omega)) dX5_isSign_12 ?_
    refine W.eq (g2 := F0 m 13 ls [.int 0]) rfl ?_
    refine lv_if_eq (tgt := 34) hx hb dX5_isSign_13 (by decide) (fun _ => ?_) (fun c_3 => False.elim (by revert c_3; decide))
    refine lv_iconst (v := 0) hx hb dX5_isSign_34 (by decide) ?_
    exact W.zret (v := 0) hx hb hr rfl (fun t ht hW => ⟨0, rfl, rfl, ht⟩) (fun q h => by cases h) dX5_isSign_35
  · refine lv_if_eq (tgt := 34) hx hb dX5_isSign_4 (by decide) (fun _ => ?_) (fun c_4 => False.elim (by revert c_4; decide))
    refine lv_iconst (v := 0) hx hb dX5_isSign_34 (by decide) ?_
    exact W.zret (v := 0) hx hb hr rfl (fun t ht hW => ⟨0, rfl, rfl, ht⟩) (fun q h => by cases h) dX5_isSign_35
set_option maxHeartbeats 4000000 in
set_option maxRecDepth 100000 in
theorem kX5_put (l : Launch) (dC : Nat → ClassId) (dI : Nat → Nat → Nat) (g0 g1 g2 g3 g4 g5 g6 g7 g8 g9 g10 g11 g12 g13 g14 g15 g16 g17 g18 g19 : Nat) (kZ : ClassId) (p0 : Int32) (w0 : Int64) (p1 : Int32) : Met l yX5_put wsX5_put ({ frames := 1, cells := 0, slots := 0, locals := 21 } : Room) (va_Pc [.ref g0, .int p0, .long w0, .int p1] (fun U => va_P (dC, dI) vwCl [(g0, .inr (4, [.ref g1, .ref g2, .ref g3, .ref g4, .ref g5, .ref g6, .ref g7, .ref g8, .ref g9, .ref g10, .ref g11, .ref g12, .ref g13, .ref g14, .ref g15, .ref g16, .ref g17, .ref g18, .int 0, .ref g19, .int 0, .int 0, .int 0])), (g1, .inl (kZ, 4, .inl (fun _ => 0)))] U.heap ∧ va_K (dC, dI) vwCl [(kZ, .boolean)] U)) (vp_Si (fun r => r = an_put p0 p1)) 0 0 (fun _ => False) := by
  refine Met.ofW (cc := cX5_put) (maxL := 6) (ret := (some .int)) (by decide) rfl ?_
  intro p e s m args below meth c s₁ B hml hv
  obtain ⟨rfl, hP, hK⟩ := hv
  have hx := B.exec
  have hb := B.bytes
  have hr := B.returns
  have hts := atoms_spec (ws := wsX5_put) B.pre
  have hown : s.vm.findClass RX5 = some m.cls := findClass_of_methodNamed B.named
  have hlocks := B.notSynchronized
  have hl := lv_entry ([.ref g0, .int p0, .long w0, .int p1]) (n := 6) (Nat.le_of_ble_eq_true rfl)
  rw [lg_entry_eq]
  generalize (lg_sl ([.ref g0, .int p0, .long w0, .int p1]) ++ List.replicate (6 - (lg_sl ([.ref g0, .int p0, .long w0, .int p1])).length) Slot.unset).toArray = ls at hl ⊢
  have hl : lv_has ls 6 [(0, .ref g0), (1, .int p0), (2, .long w0), (4, .int p1)] := hl
  refine lv_iload_n hx hb dX5_put_0 rfl (lv_at hl 1 rfl) ?_
  refine vp_callSi (W.runS (As := [.int p0]) (rest := []) ⟨hx, hb, hml, hown, hts⟩ (kX5_isStream l p0) (va_cwS 1 hts gX5_put_X5_isStream rfl rfl rfl (by decide +kernel) ⟨Nat.le_of_ble_eq_true rfl, Nat.le_of_ble_eq_true rfl⟩) ⟨fun a U g mk q => q, fun U hU hW => ⟨rfl, trivial⟩⟩ rfl rfl hl.1 rfl (lv_room (Nat.le_of_ble_eq_true rfl)) dX5_put_1 ⟨Nat.le_of_ble_eq_true rfl, Nat.le_of_ble_eq_true rfl⟩) (fun r_1 hwr_1 => ?_)
  rcases hwr_1 with ⟨rfl, hwr_1⟩ | ⟨rfl, hwr_1⟩
  · refine lv_if_eq (tgt := 20) hx hb dX5_put_4 (by decide) (fun c_2 => False.elim (by revert c_2; decide)) (fun _ => ?_)
    refine lv_iload hx hb dX5_put_7 (lv_at hl 3 rfl) ?_
    refine lv_iconst (v := 1) hx hb dX5_put_9 (by decide) ?_
    refine lv_icmp_lt (tgt := 20) hx hb dX5_put_10 (by decide) (fun c_3 => ?_) (fun c_3 => ?_)
    · have zc_3 : p1.toInt < (1 : Int) := zz_lt rfl (by decide) c_3
      refine lv_iconst (v := (-1)) hx hb dX5_put_20 (by decide) ?_
      exact W.iret (v := (-1)) hx hb hr (fun t ht hW => ⟨(-1), rfl, by unfold an_put; first | rw [if_pos (by omega)] | rw [if_neg (by omega)], ht⟩) (fun q h => by cases h) dX5_put_21
    · have zc_3 : p1.toInt ≥ (1 : Int) := zz_nlt rfl (by decide) c_3
      refine lv_iload hx hb dX5_put_13 (lv_at hl 3 rfl) ?_
      refine lv_bipush (v := 8) hx hb dX5_put_15 (by decide) ?_
      refine lv_icmp_le (tgt := 22) hx hb dX5_put_17 (by decide) (fun c_4 => ?_) (fun c_4 => ?_)
      · have zc_4 : p1.toInt ≤ (8 : Int) := zz_le rfl (by decide) c_4
        refine lv_aload_n hx hb dX5_put_22 rfl (lv_at hl 0 rfl) ?_
        refine lv_iload_n hx hb dX5_put_23 rfl (lv_at hl 1 rfl) ?_
        have hPc := hP.sub (ws' := [(g0, .inr (4, [.ref g1, .ref g2, .ref g3, .ref g4, .ref g5, .ref g6, .ref g7, .ref g8, .ref g9, .ref g10, .ref g11, .ref g12, .ref g13, .ref g14, .ref g15, .ref g16, .ref g17, .ref g18, .int 0, .ref g19, .int 0, .int 0, .int 0])), (g1, .inl (kZ, 4, .inl (fun _ => 0)))]) [0, 1] rfl
        have hKc := hK.sub (tys' := [(kZ, .boolean)]) [0] rfl
        refine vp_callSi (W.runV (As := [.int p0]) (rest := []) ⟨hx, hb, hml, hown, hts⟩ (kX5_takes l dC dI g0 g1 g2 g3 g4 g5 g6 g7 g8 g9 g10 g11 g12 g13 g14 g15 g16 g17 g18 g19 kZ p0 (by omega)) (cwV 1 hts gX5_put_X5_takes rfl rfl rfl (by decide +kernel) ⟨Nat.le_of_ble_eq_true rfl, Nat.le_of_ble_eq_true rfl⟩) ⟨fun a U g mk q => by obtain ⟨q0, qP, qK⟩ := q; exact ⟨q0, qP, va_K.moved (u := U) (U := U.calling g mk a) (Vm.Alike.refl U.vm) qK⟩, va_recv hKc hPc (ci := 4) (q0 := 0) rfl rfl, fun U hU hW => ⟨rfl, by rw [hU]; exact hPc, va_K.moved hW.alike hKc⟩⟩ rfl rfl hl.1 rfl (lv_room (Nat.le_of_ble_eq_true rfl)) dX5_put_24 ⟨Nat.le_of_ble_eq_true rfl, Nat.le_of_ble_eq_true rfl⟩) (fun r_5 hwr_5 => ?_)
        subst hwr_5
        refine lv_if_ne (tgt := 33) hx hb dX5_put_27 (by decide) (fun c_6 => False.elim (by revert c_6; decide)) (fun _ => ?_)
        refine lv_bipush (v := (-2)) hx hb dX5_put_30 (by decide) ?_
        exact W.iret (v := (-2)) hx hb hr (fun t ht hW => ⟨(-2), rfl, by unfold an_put; first | rw [if_pos (by omega)] | rw [if_neg (by omega)], ht⟩) (fun q h => by cases h) dX5_put_32
      · have zc_4 : p1.toInt > (8 : Int) := zz_nle rfl (by decide) c_4
        refine lv_iconst (v := (-1)) hx hb dX5_put_20 (by decide) ?_
        exact W.iret (v := (-1)) hx hb hr (fun t ht hW => ⟨(-1), rfl, by unfold an_put; first | rw [if_pos (by omega)] | rw [if_neg (by omega)], ht⟩) (fun q h => by cases h) dX5_put_21
  · refine lv_if_eq (tgt := 20) hx hb dX5_put_4 (by decide) (fun _ => ?_) (fun c_7 => False.elim (by revert c_7; decide))
    refine lv_iconst (v := (-1)) hx hb dX5_put_20 (by decide) ?_
    exact W.iret (v := (-1)) hx hb hr (fun t ht hW => ⟨(-1), rfl, by unfold an_put; first | rw [if_pos (by omega)] | rw [if_neg (by omega)], ht⟩) (fun q h => by cases h) dX5_put_21
set_option maxHeartbeats 4000000 in
set_option maxRecDepth 100000 in
theorem kX5_pour (l : Launch) (dC : Nat → ClassId) (dI : Nat → Nat → Nat) (g0 g1 g2 g3 g4 g5 g6 g7 g8 g9 g10 g11 g12 g13 g14 g15 g16 g17 g18 g19 : Nat) (kZ : ClassId) (p0 : Int32) (p1 : Int32) (p2 : Int32) : Met l yX5_pour wsX5_pour ({ frames := 1, cells := 0, slots := 0, locals := 21 } : Room) (va_Pc [.ref g0, .int p0, .int p1, .int p2] (fun U => va_P (dC, dI) vwCl [(g0, .inr (4, [.ref g1, .ref g2, .ref g3, .ref g4, .ref g5, .ref g6, .ref g7, .ref g8, .ref g9, .ref g10, .ref g11, .ref g12, .ref g13, .ref g14, .ref g15, .ref g16, .ref g17, .ref g18, .int 0, .ref g19, .int 0, .int 0, .int 0])), (g1, .inl (kZ, 4, .inl (fun _ => 0)))] U.heap ∧ va_K (dC, dI) vwCl [(kZ, .boolean)] U)) (vp_Si (fun r => r = an_pour p0 p1 p2)) 0 0 (fun _ => False) := by
  refine Met.ofW (cc := cX5_pour) (maxL := 6) (ret := (some .int)) (by decide) rfl ?_
  intro p e s m args below meth c s₁ B hml hv
  obtain ⟨rfl, hP, hK⟩ := hv
  have hx := B.exec
  have hb := B.bytes
  have hr := B.returns
  have hts := atoms_spec (ws := wsX5_pour) B.pre
  have hown : s.vm.findClass RX5 = some m.cls := findClass_of_methodNamed B.named
  have hlocks := B.notSynchronized
  have hl := lv_entry ([.ref g0, .int p0, .int p1, .int p2]) (n := 6) (Nat.le_of_ble_eq_true rfl)
  rw [lg_entry_eq]
  generalize (lg_sl ([.ref g0, .int p0, .int p1, .int p2]) ++ List.replicate (6 - (lg_sl ([.ref g0, .int p0, .int p1, .int p2])).length) Slot.unset).toArray = ls at hl ⊢
  have hl : lv_has ls 6 [(0, .ref g0), (1, .int p0), (2, .int p1), (3, .int p2)] := hl
  refine lv_iload_n hx hb dX5_pour_0 rfl (lv_at hl 1 rfl) ?_
  refine vp_callSi (W.runS (As := [.int p0]) (rest := []) ⟨hx, hb, hml, hown, hts⟩ (kX5_isStream l p0) (va_cwS 1 hts gX5_pour_X5_isStream rfl rfl rfl (by decide +kernel) ⟨Nat.le_of_ble_eq_true rfl, Nat.le_of_ble_eq_true rfl⟩) ⟨fun a U g mk q => q, fun U hU hW => ⟨rfl, trivial⟩⟩ rfl rfl hl.1 rfl (lv_room (Nat.le_of_ble_eq_true rfl)) dX5_pour_1 ⟨Nat.le_of_ble_eq_true rfl, Nat.le_of_ble_eq_true rfl⟩) (fun r_1 hwr_1 => ?_)
  rcases hwr_1 with ⟨rfl, hwr_1⟩ | ⟨rfl, hwr_1⟩
  · refine lv_if_eq (tgt := 23) hx hb dX5_pour_4 (by decide) (fun c_2 => False.elim (by revert c_2; decide)) (fun _ => ?_)
    refine lv_iload_n hx hb dX5_pour_7 rfl (lv_at hl 2 rfl) ?_
    refine lv_if_lt (tgt := 23) hx hb dX5_pour_8 (by decide) (fun c_3 => ?_) (fun c_3 => ?_)
    · have zc_3 : p1.toInt < (0 : Int) := zz_lt rfl (by decide) c_3
      refine lv_iconst (v := (-1)) hx hb dX5_pour_23 (by decide) ?_
      exact W.iret (v := (-1)) hx hb hr (fun t ht hW => ⟨(-1), rfl, by unfold an_pour; first | rw [if_pos (by omega)] | rw [if_neg (by omega)], ht⟩) (fun q h => by cases h) dX5_pour_24
    · have zc_3 : p1.toInt ≥ (0 : Int) := zz_nlt rfl (by decide) c_3
      refine lv_iload_n hx hb dX5_pour_11 rfl (lv_at hl 2 rfl) ?_
      refine lv_aload_n hx hb dX5_pour_12 rfl (lv_at hl 0 rfl) ?_
      refine va_get (D := (dC, dI)) (ci := 4) (v := .int 0) (C := RX5) (T := TX5) (N := 23) hx hb hts (by decide +kernel) hown hK hP 0 rfl rfl 18 (by decide) (hts (.fieldLink RX5 68 "SignFormsModel" "outSize" "I") (by decide +kernel)) (fun _ h9 => h9) rfl dX5_pour_13 ?_
      refine lv_icmp_gt (tgt := 23) hx hb dX5_pour_16 (by decide) (fun c_4 => ?_) (fun c_4 => ?_)
      · have zc_4 : (0 : Int) < p1.toInt := zz_lt (by decide) rfl c_4
        refine lv_iconst (v := (-1)) hx hb dX5_pour_23 (by decide) ?_
        exact W.iret (v := (-1)) hx hb hr (fun t ht hW => ⟨(-1), rfl, by unfold an_pour; first | rw [if_pos (by omega)] | rw [if_neg (by omega)], ht⟩) (fun q h => by cases h) dX5_pour_24
      · have zc_4 : (0 : Int) ≥ p1.toInt := zz_nlt (by decide) rfl c_4
        refine lv_iload_n hx hb dX5_pour_19 rfl (lv_at hl 3 rfl) ?_
        refine lv_if_ge (tgt := 25) hx hb dX5_pour_20 (by decide) (fun c_5 => ?_) (fun c_5 => ?_)
        · have zc_5 : (0 : Int) ≤ p2.toInt := zz_le (by decide) rfl c_5
          refine lv_aload_n hx hb dX5_pour_25 rfl (lv_at hl 0 rfl) ?_
          refine lv_iload_n hx hb dX5_pour_26 rfl (lv_at hl 1 rfl) ?_
          have hPc := hP.sub (ws' := [(g0, .inr (4, [.ref g1, .ref g2, .ref g3, .ref g4, .ref g5, .ref g6, .ref g7, .ref g8, .ref g9, .ref g10, .ref g11, .ref g12, .ref g13, .ref g14, .ref g15, .ref g16, .ref g17, .ref g18, .int 0, .ref g19, .int 0, .int 0, .int 0])), (g1, .inl (kZ, 4, .inl (fun _ => 0)))]) [0, 1] rfl
          have hKc := hK.sub (tys' := [(kZ, .boolean)]) [0] rfl
          refine vp_callSi (W.runV (As := [.int p0]) (rest := []) ⟨hx, hb, hml, hown, hts⟩ (kX5_takes l dC dI g0 g1 g2 g3 g4 g5 g6 g7 g8 g9 g10 g11 g12 g13 g14 g15 g16 g17 g18 g19 kZ p0 (by omega)) (cwV 1 hts gX5_pour_X5_takes rfl rfl rfl (by decide +kernel) ⟨Nat.le_of_ble_eq_true rfl, Nat.le_of_ble_eq_true rfl⟩) ⟨fun a U g mk q => by obtain ⟨q0, qP, qK⟩ := q; exact ⟨q0, qP, va_K.moved (u := U) (U := U.calling g mk a) (Vm.Alike.refl U.vm) qK⟩, va_recv hKc hPc (ci := 4) (q0 := 0) rfl rfl, fun U hU hW => ⟨rfl, by rw [hU]; exact hPc, va_K.moved hW.alike hKc⟩⟩ rfl rfl hl.1 rfl (lv_room (Nat.le_of_ble_eq_true rfl)) dX5_pour_27 ⟨Nat.le_of_ble_eq_true rfl, Nat.le_of_ble_eq_true rfl⟩) (fun r_6 hwr_6 => ?_)
          subst hwr_6
          refine lv_if_ne (tgt := 36) hx hb dX5_pour_30 (by decide) (fun c_7 => False.elim (by revert c_7; decide)) (fun _ => ?_)
          refine lv_bipush (v := (-2)) hx hb dX5_pour_33 (by decide) ?_
          exact W.iret (v := (-2)) hx hb hr (fun t ht hW => ⟨(-2), rfl, by unfold an_pour; first | rw [if_pos (by omega)] | rw [if_neg (by omega)], ht⟩) (fun q h => by cases h) dX5_pour_35
        · have zc_5 : (0 : Int) > p2.toInt := zz_nle (by decide) rfl c_5
          refine lv_iconst (v := (-1)) hx hb dX5_pour_23 (by decide) ?_
          exact W.iret (v := (-1)) hx hb hr (fun t ht hW => ⟨(-1), rfl, by unfold an_pour; first | rw [if_pos (by omega)] | rw [if_neg (by omega)], ht⟩) (fun q h => by cases h) dX5_pour_24
  · refine lv_if_eq (tgt := 23) hx hb dX5_pour_4 (by decide) (fun _ => ?_) (fun c_8 => False.elim (by revert c_8; decide))
    refine lv_iconst (v := (-1)) hx hb dX5_pour_23 (by decide) ?_
    exact W.iret (v := (-1)) hx hb hr (fun t ht hW => ⟨(-1), rfl, by unfold an_pour; first | rw [if_pos (by omega)] | rw [if_neg (by omega)], ht⟩) (fun q h => by cases h) dX5_pour_24
set_option maxHeartbeats 4000000 in
set_option maxRecDepth 100000 in
theorem kX5_end (l : Launch) (dC : Nat → ClassId) (dI : Nat → Nat → Nat) (g0 g1 g2 g3 g4 g5 g6 g7 g8 g9 g10 g11 g12 g13 g14 g15 g16 g17 g18 g19 : Nat) (kZ : ClassId) (p0 : Int32) : Met l yX5_end wsX5_end ({ frames := 1, cells := 0, slots := 0, locals := 21 } : Room) (va_Pc [.ref g0, .int p0] (fun U => va_P (dC, dI) vwCl [(g0, .inr (4, [.ref g1, .ref g2, .ref g3, .ref g4, .ref g5, .ref g6, .ref g7, .ref g8, .ref g9, .ref g10, .ref g11, .ref g12, .ref g13, .ref g14, .ref g15, .ref g16, .ref g17, .ref g18, .int 0, .ref g19, .int 0, .int 0, .int 0])), (g1, .inl (kZ, 4, .inl (fun _ => 0)))] U.heap ∧ va_K (dC, dI) vwCl [(kZ, .boolean)] U)) (vp_Si (fun r => r = an_end p0)) 0 0 (fun _ => False) := by
  refine Met.ofW (cc := cX5_end) (maxL := 2) (ret := (some .int)) (by decide) rfl ?_
  intro p e s m args below meth c s₁ B hml hv
  obtain ⟨rfl, hP, hK⟩ := hv
  have hx := B.exec
  have hb := B.bytes
  have hr := B.returns
  have hts := atoms_spec (ws := wsX5_end) B.pre
  have hown : s.vm.findClass RX5 = some m.cls := findClass_of_methodNamed B.named
  have hlocks := B.notSynchronized
  have hl := lv_entry ([.ref g0, .int p0]) (n := 2) (Nat.le_of_ble_eq_true rfl)
  rw [lg_entry_eq]
  generalize (lg_sl ([.ref g0, .int p0]) ++ List.replicate (2 - (lg_sl ([.ref g0, .int p0])).length) Slot.unset).toArray = ls at hl ⊢
  have hl : lv_has ls 2 [(0, .ref g0), (1, .int p0)] := hl
  refine lv_iload_n hx hb dX5_end_0 rfl (lv_at hl 1 rfl) ?_
  refine vp_callSi (W.runS (As := [.int p0]) (rest := []) ⟨hx, hb, hml, hown, hts⟩ (kX5_isStream l p0) (va_cwS 1 hts gX5_end_X5_isStream rfl rfl rfl (by decide +kernel) ⟨Nat.le_of_ble_eq_true rfl, Nat.le_of_ble_eq_true rfl⟩) ⟨fun a U g mk q => q, fun U hU hW => ⟨rfl, trivial⟩⟩ rfl rfl hl.1 rfl (lv_room (Nat.le_of_ble_eq_true rfl)) dX5_end_1 ⟨Nat.le_of_ble_eq_true rfl, Nat.le_of_ble_eq_true rfl⟩) (fun r_1 hwr_1 => ?_)
  rcases hwr_1 with ⟨rfl, hwr_1⟩ | ⟨rfl, hwr_1⟩
  · refine lv_if_ne (tgt := 9) hx hb dX5_end_4 (by decide) (fun _ => ?_) (fun c_2 => False.elim (by revert c_2; decide))
    refine lv_aload_n hx hb dX5_end_9 rfl (lv_at hl 0 rfl) ?_
    refine lv_iload_n hx hb dX5_end_10 rfl (lv_at hl 1 rfl) ?_
    have hPc := hP.sub (ws' := [(g0, .inr (4, [.ref g1, .ref g2, .ref g3, .ref g4, .ref g5, .ref g6, .ref g7, .ref g8, .ref g9, .ref g10, .ref g11, .ref g12, .ref g13, .ref g14, .ref g15, .ref g16, .ref g17, .ref g18, .int 0, .ref g19, .int 0, .int 0, .int 0])), (g1, .inl (kZ, 4, .inl (fun _ => 0)))]) [0, 1] rfl
    have hKc := hK.sub (tys' := [(kZ, .boolean)]) [0] rfl
    refine vp_callSi (W.runV (As := [.int p0]) (rest := []) ⟨hx, hb, hml, hown, hts⟩ (kX5_takes l dC dI g0 g1 g2 g3 g4 g5 g6 g7 g8 g9 g10 g11 g12 g13 g14 g15 g16 g17 g18 g19 kZ p0 (by omega)) (cwV 1 hts gX5_end_X5_takes rfl rfl rfl (by decide +kernel) ⟨Nat.le_of_ble_eq_true rfl, Nat.le_of_ble_eq_true rfl⟩) ⟨fun a U g mk q => by obtain ⟨q0, qP, qK⟩ := q; exact ⟨q0, qP, va_K.moved (u := U) (U := U.calling g mk a) (Vm.Alike.refl U.vm) qK⟩, va_recv hKc hPc (ci := 4) (q0 := 0) rfl rfl, fun U hU hW => ⟨rfl, by rw [hU]; exact hPc, va_K.moved hW.alike hKc⟩⟩ rfl rfl hl.1 rfl (lv_room (Nat.le_of_ble_eq_true rfl)) dX5_end_11 ⟨Nat.le_of_ble_eq_true rfl, Nat.le_of_ble_eq_true rfl⟩) (fun r_3 hwr_3 => ?_)
    subst hwr_3
    refine lv_if_ne (tgt := 20) hx hb dX5_end_14 (by decide) (fun c_4 => False.elim (by revert c_4; decide)) (fun _ => ?_)
    refine lv_bipush (v := (-2)) hx hb dX5_end_17 (by decide) ?_
    exact W.iret (v := (-2)) hx hb hr (fun t ht hW => ⟨(-2), rfl, by unfold an_end; first | rw [if_pos (by omega)] | rw [if_neg (by omega)], ht⟩) (fun q h => by cases h) dX5_end_19
  · refine lv_if_ne (tgt := 9) hx hb dX5_end_4 (by decide) (fun c_5 => False.elim (by revert c_5; decide)) (fun _ => ?_)
    refine lv_iconst (v := (-1)) hx hb dX5_end_7 (by decide) ?_
    exact W.iret (v := (-1)) hx hb hr (fun t ht hW => ⟨(-1), rfl, by unfold an_end; first | rw [if_pos (by omega)] | rw [if_neg (by omega)], ht⟩) (fun q h => by cases h) dX5_end_8
set_option maxHeartbeats 4000000 in
set_option maxRecDepth 100000 in
theorem kX5_about (l : Launch) (dC : Nat → ClassId) (dI : Nat → Nat → Nat) (g0 g1 g2 g3 g4 g5 g6 g7 g8 g9 g10 g11 g12 g13 g14 g15 g16 g17 g18 g19 : Nat) (kZ : ClassId) (p0 : Int32) (p1 : Int32) : Met l yX5_about wsX5_about ({ frames := 1, cells := 0, slots := 0, locals := 20 } : Room) (va_Pc [.ref g0, .int p0, .int p1] (fun U => va_P (dC, dI) vwCl [(g0, .inr (4, [.ref g1, .ref g2, .ref g3, .ref g4, .ref g5, .ref g6, .ref g7, .ref g8, .ref g9, .ref g10, .ref g11, .ref g12, .ref g13, .ref g14, .ref g15, .ref g16, .ref g17, .ref g18, .int 0, .ref g19, .int 0, .int 0, .int 0])), (g1, .inl (kZ, 4, .inl (fun _ => 0)))] U.heap ∧ va_K (dC, dI) vwCl [(kZ, .boolean)] U)) (vp_Si (fun r => r = an_about p0 p1)) 0 0 (fun _ => False) := by
  refine Met.ofW (cc := cX5_about) (maxL := 3) (ret := (some .int)) (by decide) rfl ?_
  intro p e s m args below meth c s₁ B hml hv
  obtain ⟨rfl, hP, hK⟩ := hv
  have hx := B.exec
  have hb := B.bytes
  have hr := B.returns
  have hts := atoms_spec (ws := wsX5_about) B.pre
  have hown : s.vm.findClass RX5 = some m.cls := findClass_of_methodNamed B.named
  have hlocks := B.notSynchronized
  have hl := lv_entry ([.ref g0, .int p0, .int p1]) (n := 3) (Nat.le_of_ble_eq_true rfl)
  rw [lg_entry_eq]
  generalize (lg_sl ([.ref g0, .int p0, .int p1]) ++ List.replicate (3 - (lg_sl ([.ref g0, .int p0, .int p1])).length) Slot.unset).toArray = ls at hl ⊢
  have hl : lv_has ls 3 [(0, .ref g0), (1, .int p0), (2, .int p1)] := hl
  refine lv_iload_n hx hb dX5_about_0 rfl (lv_at hl 1 rfl) ?_
  refine vp_callSi (W.runS (As := [.int p0]) (rest := []) ⟨hx, hb, hml, hown, hts⟩ (kX5_isStream l p0) (va_cwS 1 hts gX5_about_X5_isStream rfl rfl rfl (by decide +kernel) ⟨Nat.le_of_ble_eq_true rfl, Nat.le_of_ble_eq_true rfl⟩) ⟨fun a U g mk q => q, fun U hU hW => ⟨rfl, trivial⟩⟩ rfl rfl hl.1 rfl (lv_room (Nat.le_of_ble_eq_true rfl)) dX5_about_1 ⟨Nat.le_of_ble_eq_true rfl, Nat.le_of_ble_eq_true rfl⟩) (fun r_1 hwr_1 => ?_)
  rcases hwr_1 with ⟨rfl, hwr_1⟩ | ⟨rfl, hwr_1⟩
  · refine lv_if_eq (tgt := 17) hx hb dX5_about_4 (by decide) (fun c_2 => False.elim (by revert c_2; decide)) (fun _ => ?_)
    refine lv_iload_n hx hb dX5_about_7 rfl (lv_at hl 2 rfl) ?_
    refine lv_if_lt (tgt := 17) hx hb dX5_about_8 (by decide) (fun c_3 => ?_) (fun c_3 => ?_)
    · have zc_3 : p1.toInt < (0 : Int) := zz_lt rfl (by decide) c_3
      refine lv_iconst (v := (-1)) hx hb dX5_about_17 (by decide) ?_
      exact W.iret (v := (-1)) hx hb hr (fun t ht hW => ⟨(-1), rfl, by unfold an_about; first | rw [if_pos (by omega)] | rw [if_neg (by omega)], ht⟩) (fun q h => by cases h) dX5_about_18
    · have zc_3 : p1.toInt ≥ (0 : Int) := zz_nlt rfl (by decide) c_3
      refine lv_iload_n hx hb dX5_about_11 rfl (lv_at hl 2 rfl) ?_
      refine lv_bipush (v := 8) hx hb dX5_about_12 (by decide) ?_
      refine lv_icmp_le (tgt := 19) hx hb dX5_about_14 (by decide) (fun c_4 => ?_) (fun c_4 => ?_)
      · have zc_4 : p1.toInt ≤ (8 : Int) := zz_le rfl (by decide) c_4
        refine lv_aload_n hx hb dX5_about_19 rfl (lv_at hl 0 rfl) ?_
        refine va_get (D := (dC, dI)) (ci := 4) (v := .ref g1) (C := RX5) (T := TX5) (N := 23) hx hb hts (by decide +kernel) hown hK hP 0 rfl rfl 0 (by decide) (hts (.fieldLink RX5 7 "SignFormsModel" "isOpen" "[Z") (by decide +kernel)) (fun _ h9 => h9) rfl dX5_about_20 ?_
        refine lv_iload_n hx hb dX5_about_23 rfl (lv_at hl 1 rfl) ?_
        refine va_zald hx hb hK hP 1 0 rfl rfl (vp_in_iff.mpr (by omega)) dX5_about_24 ?_
        refine W.eq (g2 := F0 m 25 ls [.int 0]) rfl ?_
        refine lv_if_ne (tgt := 31) hx hb dX5_about_25 (by decide) (fun c_5 => False.elim (by revert c_5; decide)) (fun _ => ?_)
        refine lv_bipush (v := (-2)) hx hb dX5_about_28 (by decide) ?_
        exact W.iret (v := (-2)) hx hb hr (fun t ht hW => ⟨(-2), rfl, by unfold an_about; first | rw [if_pos (by omega)] | rw [if_neg (by omega)], ht⟩) (fun q h => by cases h) dX5_about_30
      · have zc_4 : p1.toInt > (8 : Int) := zz_nle rfl (by decide) c_4
        refine lv_iconst (v := (-1)) hx hb dX5_about_17 (by decide) ?_
        exact W.iret (v := (-1)) hx hb hr (fun t ht hW => ⟨(-1), rfl, by unfold an_about; first | rw [if_pos (by omega)] | rw [if_neg (by omega)], ht⟩) (fun q h => by cases h) dX5_about_18
  · refine lv_if_eq (tgt := 17) hx hb dX5_about_4 (by decide) (fun _ => ?_) (fun c_6 => False.elim (by revert c_6; decide))
    refine lv_iconst (v := (-1)) hx hb dX5_about_17 (by decide) ?_
    exact W.iret (v := (-1)) hx hb hr (fun t ht hW => ⟨(-1), rfl, by unfold an_about; first | rw [if_pos (by omega)] | rw [if_neg (by omega)], ht⟩) (fun q h => by cases h) dX5_about_18
set_option maxHeartbeats 4000000 in
set_option maxRecDepth 100000 in
theorem kX5_sign (l : Launch) (dC : Nat → ClassId) (dI : Nat → Nat → Nat) (g0 g1 g2 g3 g4 g5 g6 g7 g8 g9 g10 g11 g12 g13 g14 g15 g16 g17 g18 g19 : Nat) (kZ : ClassId) (p0 : Int32) (p1 : Int32) : Met l yX5_sign wsX5_sign ({ frames := 2, cells := 0, slots := 0, locals := 42 } : Room) (va_Pc [.ref g0, .int p0, .int p1] (fun U => va_P (dC, dI) vwCl [(g0, .inr (4, [.ref g1, .ref g2, .ref g3, .ref g4, .ref g5, .ref g6, .ref g7, .ref g8, .ref g9, .ref g10, .ref g11, .ref g12, .ref g13, .ref g14, .ref g15, .ref g16, .ref g17, .ref g18, .int 0, .ref g19, .int 0, .int 0, .int 0])), (g1, .inl (kZ, 4, .inl (fun _ => 0)))] U.heap ∧ va_K (dC, dI) vwCl [(kZ, .boolean)] U)) (vp_Si (fun r => r = -1)) 0 0 (fun _ => False) := by
  refine Met.ofW (cc := cX5_sign) (maxL := 3) (ret := (some .int)) (by decide) rfl ?_
  intro p e s m args below meth c s₁ B hml hv
  obtain ⟨rfl, hP, hK⟩ := hv
  have hx := B.exec
  have hb := B.bytes
  have hr := B.returns
  have hts := atoms_spec (ws := wsX5_sign) B.pre
  have hown : s.vm.findClass RX5 = some m.cls := findClass_of_methodNamed B.named
  have hlocks := B.notSynchronized
  have hl := lv_entry ([.ref g0, .int p0, .int p1]) (n := 3) (Nat.le_of_ble_eq_true rfl)
  rw [lg_entry_eq]
  generalize (lg_sl ([.ref g0, .int p0, .int p1]) ++ List.replicate (3 - (lg_sl ([.ref g0, .int p0, .int p1])).length) Slot.unset).toArray = ls at hl ⊢
  have hl : lv_has ls 3 [(0, .ref g0), (1, .int p0), (2, .int p1)] := hl
  refine lv_aload_n hx hb dX5_sign_0 rfl (lv_at hl 0 rfl) ?_
  refine lv_iload_n hx hb dX5_sign_1 rfl (lv_at hl 1 rfl) ?_
  refine lv_iload_n hx hb dX5_sign_2 rfl (lv_at hl 2 rfl) ?_
  have hPc := hP.sub (ws' := [(g0, .inr (4, [.ref g1, .ref g2, .ref g3, .ref g4, .ref g5, .ref g6, .ref g7, .ref g8, .ref g9, .ref g10, .ref g11, .ref g12, .ref g13, .ref g14, .ref g15, .ref g16, .ref g17, .ref g18, .int 0, .ref g19, .int 0, .int 0, .int 0])), (g1, .inl (kZ, 4, .inl (fun _ => 0)))]) [0, 1] rfl
  have hKc := hK.sub (tys' := [(kZ, .boolean)]) [0] rfl
  refine vp_callSi (W.runV (As := [.int p0, .int p1]) (rest := []) ⟨hx, hb, hml, hown, hts⟩ (kX5_isSign l dC dI g0 g1 g2 g3 g4 g5 g6 g7 g8 g9 g10 g11 g12 g13 g14 g15 g16 g17 g18 g19 kZ p0 p1) (cwV 2 hts gX5_sign_X5_isSign rfl rfl rfl (by decide +kernel) ⟨Nat.le_of_ble_eq_true rfl, Nat.le_of_ble_eq_true rfl⟩) ⟨fun a U g mk q => by obtain ⟨q0, qP, qK⟩ := q; exact ⟨q0, qP, va_K.moved (u := U) (U := U.calling g mk a) (Vm.Alike.refl U.vm) qK⟩, va_recv hKc hPc (ci := 4) (q0 := 0) rfl rfl, fun U hU hW => ⟨rfl, by rw [hU]; exact hPc, va_K.moved hW.alike hKc⟩⟩ rfl rfl hl.1 rfl (lv_room (Nat.le_of_ble_eq_true rfl)) dX5_sign_3 ⟨Nat.le_of_ble_eq_true rfl, Nat.le_of_ble_eq_true rfl⟩) (fun r_1 hwr_1 => ?_)
  subst hwr_1
  refine lv_if_eq (tgt := 24) hx hb dX5_sign_6 (by decide) (fun _ => ?_) (fun c_2 => False.elim (by revert c_2; decide))
  refine lv_iconst (v := (-1)) hx hb dX5_sign_24 (by decide) ?_
  exact W.iret (v := (-1)) hx hb hr (fun t ht hW => ⟨(-1), rfl, rfl, ht⟩) (fun q h => by cases h) dX5_sign_25
set_option maxHeartbeats 4000000 in
set_option maxRecDepth 100000 in
theorem kX5_placed (l : Launch) (dC : Nat → ClassId) (dI : Nat → Nat → Nat) (g0 g1 g2 g3 g4 g5 g6 g7 g8 g9 g10 g11 g12 g13 g14 g15 g16 g17 g18 g19 : Nat) (kZ : ClassId) (p0 : Int32) (p1 : Int32) (p2 : Int32) : Met l yX5_placed wsX5_placed ({ frames := 2, cells := 0, slots := 0, locals := 42 } : Room) (va_Pc [.ref g0, .int p0, .int p1, .int p2] (fun U => va_P (dC, dI) vwCl [(g0, .inr (4, [.ref g1, .ref g2, .ref g3, .ref g4, .ref g5, .ref g6, .ref g7, .ref g8, .ref g9, .ref g10, .ref g11, .ref g12, .ref g13, .ref g14, .ref g15, .ref g16, .ref g17, .ref g18, .int 0, .ref g19, .int 0, .int 0, .int 0])), (g1, .inl (kZ, 4, .inl (fun _ => 0)))] U.heap ∧ va_K (dC, dI) vwCl [(kZ, .boolean)] U)) (vp_Si (fun r => r = -1)) 0 0 (fun _ => False) := by
  refine Met.ofW (cc := cX5_placed) (maxL := 5) (ret := (some .int)) (by decide) rfl ?_
  intro p e s m args below meth c s₁ B hml hv
  obtain ⟨rfl, hP, hK⟩ := hv
  have hx := B.exec
  have hb := B.bytes
  have hr := B.returns
  have hts := atoms_spec (ws := wsX5_placed) B.pre
  have hown : s.vm.findClass RX5 = some m.cls := findClass_of_methodNamed B.named
  have hlocks := B.notSynchronized
  have hl := lv_entry ([.ref g0, .int p0, .int p1, .int p2]) (n := 5) (Nat.le_of_ble_eq_true rfl)
  rw [lg_entry_eq]
  generalize (lg_sl ([.ref g0, .int p0, .int p1, .int p2]) ++ List.replicate (5 - (lg_sl ([.ref g0, .int p0, .int p1, .int p2])).length) Slot.unset).toArray = ls at hl ⊢
  have hl : lv_has ls 5 [(0, .ref g0), (1, .int p0), (2, .int p1), (3, .int p2)] := hl
  refine lv_aload_n hx hb dX5_placed_0 rfl (lv_at hl 0 rfl) ?_
  refine lv_iload_n hx hb dX5_placed_1 rfl (lv_at hl 1 rfl) ?_
  refine lv_iload_n hx hb dX5_placed_2 rfl (lv_at hl 2 rfl) ?_
  have hPc := hP.sub (ws' := [(g0, .inr (4, [.ref g1, .ref g2, .ref g3, .ref g4, .ref g5, .ref g6, .ref g7, .ref g8, .ref g9, .ref g10, .ref g11, .ref g12, .ref g13, .ref g14, .ref g15, .ref g16, .ref g17, .ref g18, .int 0, .ref g19, .int 0, .int 0, .int 0])), (g1, .inl (kZ, 4, .inl (fun _ => 0)))]) [0, 1] rfl
  have hKc := hK.sub (tys' := [(kZ, .boolean)]) [0] rfl
  refine vp_callSi (W.runV (As := [.int p0, .int p1]) (rest := []) ⟨hx, hb, hml, hown, hts⟩ (kX5_isSign l dC dI g0 g1 g2 g3 g4 g5 g6 g7 g8 g9 g10 g11 g12 g13 g14 g15 g16 g17 g18 g19 kZ p0 p1) (cwV 2 hts gX5_placed_X5_isSign rfl rfl rfl (by decide +kernel) ⟨Nat.le_of_ble_eq_true rfl, Nat.le_of_ble_eq_true rfl⟩) ⟨fun a U g mk q => by obtain ⟨q0, qP, qK⟩ := q; exact ⟨q0, qP, va_K.moved (u := U) (U := U.calling g mk a) (Vm.Alike.refl U.vm) qK⟩, va_recv hKc hPc (ci := 4) (q0 := 0) rfl rfl, fun U hU hW => ⟨rfl, by rw [hU]; exact hPc, va_K.moved hW.alike hKc⟩⟩ rfl rfl hl.1 rfl (lv_room (Nat.le_of_ble_eq_true rfl)) dX5_placed_3 ⟨Nat.le_of_ble_eq_true rfl, Nat.le_of_ble_eq_true rfl⟩) (fun r_1 hwr_1 => ?_)
  subst hwr_1
  refine lv_if_eq (tgt := 18) hx hb dX5_placed_6 (by decide) (fun _ => ?_) (fun c_2 => False.elim (by revert c_2; decide))
  refine lv_iconst (v := (-1)) hx hb dX5_placed_18 (by decide) ?_
  exact W.iret (v := (-1)) hx hb hr (fun t ht hW => ⟨(-1), rfl, rfl, ht⟩) (fun q h => by cases h) dX5_placed_19
set_option maxHeartbeats 4000000 in
set_option maxRecDepth 100000 in
theorem kX5_at (l : Launch) (dC : Nat → ClassId) (dI : Nat → Nat → Nat) (g0 g1 g2 g3 g4 g5 g6 g7 g8 g9 g10 g11 g12 g13 g14 g15 g16 g17 g18 g19 : Nat) (kZ : ClassId) (p0 : Int32) (p1 : Int32) : Met l yX5_at wsX5_at ({ frames := 1, cells := 0, slots := 0, locals := 20 } : Room) (va_Pc [.ref g0, .int p0, .int p1] (fun U => va_P (dC, dI) vwCl [(g0, .inr (4, [.ref g1, .ref g2, .ref g3, .ref g4, .ref g5, .ref g6, .ref g7, .ref g8, .ref g9, .ref g10, .ref g11, .ref g12, .ref g13, .ref g14, .ref g15, .ref g16, .ref g17, .ref g18, .int 0, .ref g19, .int 0, .int 0, .int 0])), (g1, .inl (kZ, 4, .inl (fun _ => 0)))] U.heap ∧ va_K (dC, dI) vwCl [(kZ, .boolean)] U)) (vp_Si (fun r => r = -1)) 0 0 (fun _ => False) := by
  refine Met.ofW (cc := cX5_at) (maxL := 5) (ret := (some .int)) (by decide) rfl ?_
  intro p e s m args below meth c s₁ B hml hv
  obtain ⟨rfl, hP, hK⟩ := hv
  have hx := B.exec
  have hb := B.bytes
  have hr := B.returns
  have hts := atoms_spec (ws := wsX5_at) B.pre
  have hown : s.vm.findClass RX5 = some m.cls := findClass_of_methodNamed B.named
  have hlocks := B.notSynchronized
  have hl := lv_entry ([.ref g0, .int p0, .int p1]) (n := 5) (Nat.le_of_ble_eq_true rfl)
  rw [lg_entry_eq]
  generalize (lg_sl ([.ref g0, .int p0, .int p1]) ++ List.replicate (5 - (lg_sl ([.ref g0, .int p0, .int p1])).length) Slot.unset).toArray = ls at hl ⊢
  have hl : lv_has ls 5 [(0, .ref g0), (1, .int p0), (2, .int p1)] := hl
  refine lv_iload_n hx hb dX5_at_0 rfl (lv_at hl 1 rfl) ?_
  refine vp_callSi (W.runS (As := [.int p0]) (rest := []) ⟨hx, hb, hml, hown, hts⟩ (kX5_isStream l p0) (va_cwS 1 hts gX5_at_X5_isStream rfl rfl rfl (by decide +kernel) ⟨Nat.le_of_ble_eq_true rfl, Nat.le_of_ble_eq_true rfl⟩) ⟨fun a U g mk q => q, fun U hU hW => ⟨rfl, trivial⟩⟩ rfl rfl hl.1 rfl (lv_room (Nat.le_of_ble_eq_true rfl)) dX5_at_1 ⟨Nat.le_of_ble_eq_true rfl, Nat.le_of_ble_eq_true rfl⟩) (fun r_1 hwr_1 => ?_)
  rcases hwr_1 with ⟨rfl, hwr_1⟩ | ⟨rfl, hwr_1⟩
  · refine lv_if_eq (tgt := 16) hx hb dX5_at_4 (by decide) (fun c_2 => False.elim (by revert c_2; decide)) (fun _ => ?_)
    refine lv_aload_n hx hb dX5_at_7 rfl (lv_at hl 0 rfl) ?_
    refine va_get (D := (dC, dI)) (ci := 4) (v := .ref g1) (C := RX5) (T := TX5) (N := 23) hx hb hts (by decide +kernel) hown hK hP 0 rfl rfl 0 (by decide) (hts (.fieldLink RX5 7 "SignFormsModel" "isOpen" "[Z") (by decide +kernel)) (fun _ h9 => h9) rfl dX5_at_8 ?_
    refine lv_iload_n hx hb dX5_at_11 rfl (lv_at hl 1 rfl) ?_
    refine va_zald hx hb hK hP 1 0 rfl rfl (vp_in_iff.mpr (by omega)) dX5_at_12 ?_
    refine W.eq (g2 := F0 m 13 ls [.int 0]) rfl ?_
    refine lv_if_ne (tgt := 18) hx hb dX5_at_13 (by decide) (fun c_3 => False.elim (by revert c_3; decide)) (fun _ => ?_)
    refine lv_iconst (v := (-1)) hx hb dX5_at_16 (by decide) ?_
    exact W.iret (v := (-1)) hx hb hr (fun t ht hW => ⟨(-1), rfl, rfl, ht⟩) (fun q h => by cases h) dX5_at_17
  · refine lv_if_eq (tgt := 16) hx hb dX5_at_4 (by decide) (fun _ => ?_) (fun c_4 => False.elim (by revert c_4; decide))
    refine lv_iconst (v := (-1)) hx hb dX5_at_16 (by decide) ?_
    exact W.iret (v := (-1)) hx hb hr (fun t ht hW => ⟨(-1), rfl, rfl, ht⟩) (fun q h => by cases h) dX5_at_17
set_option maxHeartbeats 4000000 in
set_option maxRecDepth 100000 in
theorem kX5_write (l : Launch) (dC : Nat → ClassId) (dI : Nat → Nat → Nat) (g0 g1 g2 g3 g4 g5 g6 g7 g8 g9 g10 g11 g12 g13 g14 g15 g16 g17 g18 g19 : Nat) (kZ : ClassId) (p0 : Int32) (p1 : Int32) (p2 : Int32) : Met l yX5_write wsX5_write ({ frames := 1, cells := 0, slots := 0, locals := 20 } : Room) (va_Pc [.ref g0, .int p0, .int p1, .int p2] (fun U => va_P (dC, dI) vwCl [(g0, .inr (4, [.ref g1, .ref g2, .ref g3, .ref g4, .ref g5, .ref g6, .ref g7, .ref g8, .ref g9, .ref g10, .ref g11, .ref g12, .ref g13, .ref g14, .ref g15, .ref g16, .ref g17, .ref g18, .int 0, .ref g19, .int 0, .int 0, .int 0])), (g1, .inl (kZ, 4, .inl (fun _ => 0)))] U.heap ∧ va_K (dC, dI) vwCl [(kZ, .boolean)] U)) (vp_Si (fun r => r = an_write p0 p1)) 0 0 (fun _ => False) := by
  refine Met.ofW (cc := cX5_write) (maxL := 6) (ret := (some .int)) (by decide) rfl ?_
  intro p e s m args below meth c s₁ B hml hv
  obtain ⟨rfl, hP, hK⟩ := hv
  have hx := B.exec
  have hb := B.bytes
  have hr := B.returns
  have hts := atoms_spec (ws := wsX5_write) B.pre
  have hown : s.vm.findClass RX5 = some m.cls := findClass_of_methodNamed B.named
  have hlocks := B.notSynchronized
  have hl := lv_entry ([.ref g0, .int p0, .int p1, .int p2]) (n := 6) (Nat.le_of_ble_eq_true rfl)
  rw [lg_entry_eq]
  generalize (lg_sl ([.ref g0, .int p0, .int p1, .int p2]) ++ List.replicate (6 - (lg_sl ([.ref g0, .int p0, .int p1, .int p2])).length) Slot.unset).toArray = ls at hl ⊢
  have hl : lv_has ls 6 [(0, .ref g0), (1, .int p0), (2, .int p1), (3, .int p2)] := hl
  refine lv_iload_n hx hb dX5_write_0 rfl (lv_at hl 1 rfl) ?_
  refine vp_callSi (W.runS (As := [.int p0]) (rest := []) ⟨hx, hb, hml, hown, hts⟩ (kX5_isStream l p0) (va_cwS 1 hts gX5_write_X5_isStream rfl rfl rfl (by decide +kernel) ⟨Nat.le_of_ble_eq_true rfl, Nat.le_of_ble_eq_true rfl⟩) ⟨fun a U g mk q => q, fun U hU hW => ⟨rfl, trivial⟩⟩ rfl rfl hl.1 rfl (lv_room (Nat.le_of_ble_eq_true rfl)) dX5_write_1 ⟨Nat.le_of_ble_eq_true rfl, Nat.le_of_ble_eq_true rfl⟩) (fun r_1 hwr_1 => ?_)
  rcases hwr_1 with ⟨rfl, hwr_1⟩ | ⟨rfl, hwr_1⟩
  · refine lv_if_eq (tgt := 14) hx hb dX5_write_4 (by decide) (fun c_2 => False.elim (by revert c_2; decide)) (fun _ => ?_)
    refine lv_iload_n hx hb dX5_write_7 rfl (lv_at hl 2 rfl) ?_
    refine vp_callSi (W.runS (As := [.int p1]) (rest := []) ⟨hx, hb, hml, hown, hts⟩ (kX5_isForm l p1) (va_cwS 1 hts gX5_write_X5_isForm rfl rfl rfl (by decide +kernel) ⟨Nat.le_of_ble_eq_true rfl, Nat.le_of_ble_eq_true rfl⟩) ⟨fun a U g mk q => q, fun U hU hW => ⟨rfl, trivial⟩⟩ rfl rfl hl.1 rfl (lv_room (Nat.le_of_ble_eq_true rfl)) dX5_write_8 ⟨Nat.le_of_ble_eq_true rfl, Nat.le_of_ble_eq_true rfl⟩) (fun r_3 hwr_3 => ?_)
    rcases hwr_3 with ⟨rfl, hwr_3⟩ | ⟨rfl, hwr_3⟩
    · refine lv_if_ne (tgt := 16) hx hb dX5_write_11 (by decide) (fun _ => ?_) (fun c_4 => False.elim (by revert c_4; decide))
      refine lv_aload_n hx hb dX5_write_16 rfl (lv_at hl 0 rfl) ?_
      refine va_get (D := (dC, dI)) (ci := 4) (v := .ref g1) (C := RX5) (T := TX5) (N := 23) hx hb hts (by decide +kernel) hown hK hP 0 rfl rfl 0 (by decide) (hts (.fieldLink RX5 7 "SignFormsModel" "isOpen" "[Z") (by decide +kernel)) (fun _ h9 => h9) rfl dX5_write_17 ?_
      refine lv_iload_n hx hb dX5_write_20 rfl (lv_at hl 1 rfl) ?_
      refine va_zald hx hb hK hP 1 0 rfl rfl (vp_in_iff.mpr (by omega)) dX5_write_21 ?_
      refine W.eq (g2 := F0 m 22 ls [.int 0]) rfl ?_
      refine lv_if_ne (tgt := 28) hx hb dX5_write_22 (by decide) (fun c_5 => False.elim (by revert c_5; decide)) (fun _ => ?_)
      refine lv_bipush (v := (-2)) hx hb dX5_write_25 (by decide) ?_
      exact W.iret (v := (-2)) hx hb hr (fun t ht hW => ⟨(-2), rfl, by unfold an_write; first | rw [if_pos (by omega)] | rw [if_neg (by omega)], ht⟩) (fun q h => by cases h) dX5_write_27
    · refine lv_if_ne (tgt := 16) hx hb dX5_write_11 (by decide) (fun c_6 => False.elim (by revert c_6; decide)) (fun _ => ?_)
      refine lv_iconst (v := (-1)) hx hb dX5_write_14 (by decide) ?_
      exact W.iret (v := (-1)) hx hb hr (fun t ht hW => ⟨(-1), rfl, by unfold an_write; first | rw [if_pos (by omega)] | rw [if_neg (by omega)], ht⟩) (fun q h => by cases h) dX5_write_15
  · refine lv_if_eq (tgt := 14) hx hb dX5_write_4 (by decide) (fun _ => ?_) (fun c_7 => False.elim (by revert c_7; decide))
    refine lv_iconst (v := (-1)) hx hb dX5_write_14 (by decide) ?_
    exact W.iret (v := (-1)) hx hb hr (fun t ht hW => ⟨(-1), rfl, by unfold an_write; first | rw [if_pos (by omega)] | rw [if_neg (by omega)], ht⟩) (fun q h => by cases h) dX5_write_15
set_option maxHeartbeats 4000000 in
set_option maxRecDepth 100000 in
theorem kX5_size (l : Launch) (dC : Nat → ClassId) (dI : Nat → Nat → Nat) (g0 g1 g2 g3 g4 g5 g6 g7 g8 g9 g10 g11 g12 g13 g14 g15 g16 g17 g18 g19 : Nat) (kZ : ClassId) (p0 : Int32) (p1 : Int32) (p2 : Int32) (p3 : Int32) : Met l yX5_size wsX5_size ({ frames := 1, cells := 0, slots := 0, locals := 20 } : Room) (va_Pc [.ref g0, .int p0, .int p1, .int p2, .int p3] (fun U => va_P (dC, dI) vwCl [(g0, .inr (4, [.ref g1, .ref g2, .ref g3, .ref g4, .ref g5, .ref g6, .ref g7, .ref g8, .ref g9, .ref g10, .ref g11, .ref g12, .ref g13, .ref g14, .ref g15, .ref g16, .ref g17, .ref g18, .int 0, .ref g19, .int 0, .int 0, .int 0])), (g1, .inl (kZ, 4, .inl (fun _ => 0)))] U.heap ∧ va_K (dC, dI) vwCl [(kZ, .boolean)] U)) (vp_Si (fun r => r = an_write p0 p1)) 0 0 (fun _ => False) := by
  refine Met.ofW (cc := cX5_size) (maxL := 7) (ret := (some .int)) (by decide) rfl ?_
  intro p e s m args below meth c s₁ B hml hv
  obtain ⟨rfl, hP, hK⟩ := hv
  have hx := B.exec
  have hb := B.bytes
  have hr := B.returns
  have hts := atoms_spec (ws := wsX5_size) B.pre
  have hown : s.vm.findClass RX5 = some m.cls := findClass_of_methodNamed B.named
  have hlocks := B.notSynchronized
  have hl := lv_entry ([.ref g0, .int p0, .int p1, .int p2, .int p3]) (n := 7) (Nat.le_of_ble_eq_true rfl)
  rw [lg_entry_eq]
  generalize (lg_sl ([.ref g0, .int p0, .int p1, .int p2, .int p3]) ++ List.replicate (7 - (lg_sl ([.ref g0, .int p0, .int p1, .int p2, .int p3])).length) Slot.unset).toArray = ls at hl ⊢
  have hl : lv_has ls 7 [(0, .ref g0), (1, .int p0), (2, .int p1), (3, .int p2), (4, .int p3)] := hl
  refine lv_iload_n hx hb dX5_size_0 rfl (lv_at hl 1 rfl) ?_
  refine vp_callSi (W.runS (As := [.int p0]) (rest := []) ⟨hx, hb, hml, hown, hts⟩ (kX5_isStream l p0) (va_cwS 1 hts gX5_size_X5_isStream rfl rfl rfl (by decide +kernel) ⟨Nat.le_of_ble_eq_true rfl, Nat.le_of_ble_eq_true rfl⟩) ⟨fun a U g mk q => q, fun U hU hW => ⟨rfl, trivial⟩⟩ rfl rfl hl.1 rfl (lv_room (Nat.le_of_ble_eq_true rfl)) dX5_size_1 ⟨Nat.le_of_ble_eq_true rfl, Nat.le_of_ble_eq_true rfl⟩) (fun r_1 hwr_1 => ?_)
  rcases hwr_1 with ⟨rfl, hwr_1⟩ | ⟨rfl, hwr_1⟩
  · refine lv_if_eq (tgt := 14) hx hb dX5_size_4 (by decide) (fun c_2 => False.elim (by revert c_2; decide)) (fun _ => ?_)
    refine lv_iload_n hx hb dX5_size_7 rfl (lv_at hl 2 rfl) ?_
    refine vp_callSi (W.runS (As := [.int p1]) (rest := []) ⟨hx, hb, hml, hown, hts⟩ (kX5_isForm l p1) (va_cwS 1 hts gX5_size_X5_isForm rfl rfl rfl (by decide +kernel) ⟨Nat.le_of_ble_eq_true rfl, Nat.le_of_ble_eq_true rfl⟩) ⟨fun a U g mk q => q, fun U hU hW => ⟨rfl, trivial⟩⟩ rfl rfl hl.1 rfl (lv_room (Nat.le_of_ble_eq_true rfl)) dX5_size_8 ⟨Nat.le_of_ble_eq_true rfl, Nat.le_of_ble_eq_true rfl⟩) (fun r_3 hwr_3 => ?_)
    rcases hwr_3 with ⟨rfl, hwr_3⟩ | ⟨rfl, hwr_3⟩
    · refine lv_if_ne (tgt := 16) hx hb dX5_size_11 (by decide) (fun _ => ?_) (fun c_4 => False.elim (by revert c_4; decide))
      refine lv_aload_n hx hb dX5_size_16 rfl (lv_at hl 0 rfl) ?_
      refine va_get (D := (dC, dI)) (ci := 4) (v := .ref g1) (C := RX5) (T := TX5) (N := 23) hx hb hts (by decide +kernel) hown hK hP 0 rfl rfl 0 (by decide) (hts (.fieldLink RX5 7 "SignFormsModel" "isOpen" "[Z") (by decide +kernel)) (fun _ h9 => h9) rfl dX5_size_17 ?_
      refine lv_iload_n hx hb dX5_size_20 rfl (lv_at hl 1 rfl) ?_
      refine va_zald hx hb hK hP 1 0 rfl rfl (vp_in_iff.mpr (by omega)) dX5_size_21 ?_
      refine W.eq (g2 := F0 m 22 ls [.int 0]) rfl ?_
      refine lv_if_ne (tgt := 28) hx hb dX5_size_22 (by decide) (fun c_5 => False.elim (by revert c_5; decide)) (fun _ => ?_)
      refine lv_bipush (v := (-2)) hx hb dX5_size_25 (by decide) ?_
      exact W.iret (v := (-2)) hx hb hr (fun t ht hW => ⟨(-2), rfl, by unfold an_write; first | rw [if_pos (by omega)] | rw [if_neg (by omega)], ht⟩) (fun q h => by cases h) dX5_size_27
    · refine lv_if_ne (tgt := 16) hx hb dX5_size_11 (by decide) (fun c_6 => False.elim (by revert c_6; decide)) (fun _ => ?_)
      refine lv_iconst (v := (-1)) hx hb dX5_size_14 (by decide) ?_
      exact W.iret (v := (-1)) hx hb hr (fun t ht hW => ⟨(-1), rfl, by unfold an_write; first | rw [if_pos (by omega)] | rw [if_neg (by omega)], ht⟩) (fun q h => by cases h) dX5_size_15
  · refine lv_if_eq (tgt := 14) hx hb dX5_size_4 (by decide) (fun _ => ?_) (fun c_7 => False.elim (by revert c_7; decide))
    refine lv_iconst (v := (-1)) hx hb dX5_size_14 (by decide) ?_
    exact W.iret (v := (-1)) hx hb hr (fun t ht hW => ⟨(-1), rfl, by unfold an_write; first | rw [if_pos (by omega)] | rw [if_neg (by omega)], ht⟩) (fun q h => by cases h) dX5_size_15
set_option maxHeartbeats 4000000 in
set_option maxRecDepth 100000 in
theorem kX5_out (l : Launch) (dC : Nat → ClassId) (dI : Nat → Nat → Nat) (g0 g1 g2 g3 g4 g5 g6 g7 g8 g9 g10 g11 g12 g13 g14 g15 g16 g17 g18 g19 : Nat) (p0 : Int32) : Met l yX5_out wsX5_out ({ frames := 0, cells := 0, slots := 0, locals := 0 } : Room) (va_Pc [.ref g0, .int p0] (fun U => va_P (dC, dI) vwCl [(g0, .inr (4, [.ref g1, .ref g2, .ref g3, .ref g4, .ref g5, .ref g6, .ref g7, .ref g8, .ref g9, .ref g10, .ref g11, .ref g12, .ref g13, .ref g14, .ref g15, .ref g16, .ref g17, .ref g18, .int 0, .ref g19, .int 0, .int 0, .int 0]))] U.heap ∧ va_K (dC, dI) vwCl [] U)) (vp_Si (fun r => r = -1)) 0 0 (fun _ => False) := by
  refine Met.ofW (cc := cX5_out) (maxL := 2) (ret := (some .int)) (by decide) rfl ?_
  intro p e s m args below meth c s₁ B hml hv
  obtain ⟨rfl, hP, hK⟩ := hv
  have hx := B.exec
  have hb := B.bytes
  have hr := B.returns
  have hts := atoms_spec (ws := wsX5_out) B.pre
  have hown : s.vm.findClass RX5 = some m.cls := findClass_of_methodNamed B.named
  have hlocks := B.notSynchronized
  have hl := lv_entry ([.ref g0, .int p0]) (n := 2) (Nat.le_of_ble_eq_true rfl)
  rw [lg_entry_eq]
  generalize (lg_sl ([.ref g0, .int p0]) ++ List.replicate (2 - (lg_sl ([.ref g0, .int p0])).length) Slot.unset).toArray = ls at hl ⊢
  have hl : lv_has ls 2 [(0, .ref g0), (1, .int p0)] := hl
  refine lv_iload_n hx hb dX5_out_0 rfl (lv_at hl 1 rfl) ?_
  refine lv_if_lt (tgt := 12) hx hb dX5_out_1 (by decide) (fun c_1 => ?_) (fun c_1 => ?_)
  · have zc_1 : p0.toInt < (0 : Int) := zz_lt rfl (by decide) c_1
    refine lv_iconst (v := (-1)) hx hb dX5_out_12 (by decide) ?_
    refine lv_goto (tgt := 22) hx hb dX5_out_13 (by decide) ?_
    exact W.iret (v := (-1)) hx hb hr (fun t ht hW => ⟨(-1), rfl, rfl, ht⟩) (fun q h => by cases h) dX5_out_22
  · have zc_1 : p0.toInt ≥ (0 : Int) := zz_nlt rfl (by decide) c_1
    refine lv_iload_n hx hb dX5_out_4 rfl (lv_at hl 1 rfl) ?_
    refine lv_aload_n hx hb dX5_out_5 rfl (lv_at hl 0 rfl) ?_
    refine va_get (D := (dC, dI)) (ci := 4) (v := .int 0) (C := RX5) (T := TX5) (N := 23) hx hb hts (by decide +kernel) hown hK hP 0 rfl rfl 18 (by decide) (hts (.fieldLink RX5 68 "SignFormsModel" "outSize" "I") (by decide +kernel)) (fun _ h9 => h9) rfl dX5_out_6 ?_
    refine lv_icmp_lt (tgt := 16) hx hb dX5_out_9 (by decide) (fun c_2 => ?_) (fun c_2 => ?_)
    · have zc_2 : p0.toInt < (0 : Int) := zz_lt rfl (by decide) c_2
      exfalso
      omega
    · have zc_2 : p0.toInt ≥ (0 : Int) := zz_nlt rfl (by decide) c_2
      refine lv_iconst (v := (-1)) hx hb dX5_out_12 (by decide) ?_
      refine lv_goto (tgt := 22) hx hb dX5_out_13 (by decide) ?_
      exact W.iret (v := (-1)) hx hb hr (fun t ht hW => ⟨(-1), rfl, rfl, ht⟩) (fun q h => by cases h) dX5_out_22
set_option maxHeartbeats 4000000 in
set_option maxRecDepth 100000 in
theorem kX5_check (l : Launch) (dC : Nat → ClassId) (dI : Nat → Nat → Nat) (g0 g1 g2 g3 g4 g5 g6 g7 g8 g9 g10 g11 g12 g13 g14 g15 g16 g17 g18 g19 : Nat) (p0 : Int32) : Met l yX5_check wsX5_check ({ frames := 1, cells := 0, slots := 0, locals := 20 } : Room) (va_Pc [.ref g0, .int p0] (fun U => va_P (dC, dI) vwCl [(g0, .inr (4, [.ref g1, .ref g2, .ref g3, .ref g4, .ref g5, .ref g6, .ref g7, .ref g8, .ref g9, .ref g10, .ref g11, .ref g12, .ref g13, .ref g14, .ref g15, .ref g16, .ref g17, .ref g18, .int 0, .ref g19, .int 0, .int 0, .int 0]))] U.heap ∧ va_K (dC, dI) vwCl [] U)) (vp_Si (fun r => r = an_check p0)) 0 0 (fun _ => False) := by
  refine Met.ofW (cc := cX5_check) (maxL := 3) (ret := (some .int)) (by decide) rfl ?_
  intro p e s m args below meth c s₁ B hml hv
  obtain ⟨rfl, hP, hK⟩ := hv
  have hx := B.exec
  have hb := B.bytes
  have hr := B.returns
  have hts := atoms_spec (ws := wsX5_check) B.pre
  have hown : s.vm.findClass RX5 = some m.cls := findClass_of_methodNamed B.named
  have hlocks := B.notSynchronized
  have hl := lv_entry ([.ref g0, .int p0]) (n := 3) (Nat.le_of_ble_eq_true rfl)
  rw [lg_entry_eq]
  generalize (lg_sl ([.ref g0, .int p0]) ++ List.replicate (3 - (lg_sl ([.ref g0, .int p0])).length) Slot.unset).toArray = ls at hl ⊢
  have hl : lv_has ls 3 [(0, .ref g0), (1, .int p0)] := hl
  refine lv_iload_n hx hb dX5_check_0 rfl (lv_at hl 1 rfl) ?_
  refine vp_callSi (W.runS (As := [.int p0]) (rest := []) ⟨hx, hb, hml, hown, hts⟩ (kX5_isForm l p0) (va_cwS 1 hts gX5_check_X5_isForm rfl rfl rfl (by decide +kernel) ⟨Nat.le_of_ble_eq_true rfl, Nat.le_of_ble_eq_true rfl⟩) ⟨fun a U g mk q => q, fun U hU hW => ⟨rfl, trivial⟩⟩ rfl rfl hl.1 rfl (lv_room (Nat.le_of_ble_eq_true rfl)) dX5_check_1 ⟨Nat.le_of_ble_eq_true rfl, Nat.le_of_ble_eq_true rfl⟩) (fun r_1 hwr_1 => ?_)
  rcases hwr_1 with ⟨rfl, hwr_1⟩ | ⟨rfl, hwr_1⟩
  · refine lv_if_ne (tgt := 9) hx hb dX5_check_4 (by decide) (fun _ => ?_) (fun c_2 => False.elim (by revert c_2; decide))
    refine lv_iconst (v := 0) hx hb dX5_check_9 (by decide) ?_
    refine lv_istore_n (lv' := [(2, .int 0), (0, .ref g0), (1, .int p0)]) hx hb dX5_check_10 rfl hl (by decide) rfl (fun ls hl => ?_)
    refine lv_iload_n hx hb dX5_check_11 rfl (lv_at hl 0 rfl) ?_
    refine lv_aload_n hx hb dX5_check_12 rfl (lv_at hl 1 rfl) ?_
    refine va_get (D := (dC, dI)) (ci := 4) (v := .int 0) (C := RX5) (T := TX5) (N := 23) hx hb hts (by decide +kernel) hown hK hP 0 rfl rfl 18 (by decide) (hts (.fieldLink RX5 68 "SignFormsModel" "outSize" "I") (by decide +kernel)) (fun _ h9 => h9) rfl dX5_check_13 ?_
    refine lv_icmp_ge (tgt := 37) hx hb dX5_check_16 (by decide) (fun _ => ?_) (fun c_3 => False.elim (by revert c_3; decide))
    refine lv_iconst (v := 0) hx hb dX5_check_37 (by decide) ?_
    refine lv_istore_n (lv' := [(2, .int 0), (0, .ref g0), (1, .int p0)]) hx hb dX5_check_38 rfl hl (by decide) rfl (fun ls hl => ?_)
    refine lv_iload_n hx hb dX5_check_39 rfl (lv_at hl 0 rfl) ?_
    refine lv_aload_n hx hb dX5_check_40 rfl (lv_at hl 1 rfl) ?_
    refine va_get (D := (dC, dI)) (ci := 4) (v := .int 0) (C := RX5) (T := TX5) (N := 23) hx hb hts (by decide +kernel) hown hK hP 0 rfl rfl 18 (by decide) (hts (.fieldLink RX5 68 "SignFormsModel" "outSize" "I") (by decide +kernel)) (fun _ h9 => h9) rfl dX5_check_41 ?_
    refine lv_icmp_ge (tgt := 74) hx hb dX5_check_44 (by decide) (fun _ => ?_) (fun c_4 => False.elim (by revert c_4; decide))
    refine lv_bipush (v := (-2)) hx hb dX5_check_74 (by decide) ?_
    exact W.iret (v := (-2)) hx hb hr (fun t ht hW => ⟨(-2), rfl, by unfold an_check; first | rw [if_pos (by omega)] | rw [if_neg (by omega)], ht⟩) (fun q h => by cases h) dX5_check_76
  · refine lv_if_ne (tgt := 9) hx hb dX5_check_4 (by decide) (fun c_5 => False.elim (by revert c_5; decide)) (fun _ => ?_)
    refine lv_iconst (v := (-1)) hx hb dX5_check_7 (by decide) ?_
    exact W.iret (v := (-1)) hx hb hr (fun t ht hW => ⟨(-1), rfl, by unfold an_check; first | rw [if_pos (by omega)] | rw [if_neg (by omega)], ht⟩) (fun q h => by cases h) dX5_check_8
set_option maxHeartbeats 4000000 in
set_option maxRecDepth 100000 in
theorem kX5_order (l : Launch) (dC : Nat → ClassId) (dI : Nat → Nat → Nat) (g0 g1 g2 g3 g4 g5 g6 g7 g8 g9 g10 g11 g12 g13 g14 g15 g16 g17 g18 g19 : Nat) (kZ : ClassId) (p0 : Int32) (p1 : Int32) (p2 : Int32) : Met l yX5_order wsX5_order ({ frames := 1, cells := 0, slots := 0, locals := 20 } : Room) (va_Pc [.ref g0, .int p0, .int p1, .int p2] (fun U => va_P (dC, dI) vwCl [(g0, .inr (4, [.ref g1, .ref g2, .ref g3, .ref g4, .ref g5, .ref g6, .ref g7, .ref g8, .ref g9, .ref g10, .ref g11, .ref g12, .ref g13, .ref g14, .ref g15, .ref g16, .ref g17, .ref g18, .int 0, .ref g19, .int 0, .int 0, .int 0])), (g1, .inl (kZ, 4, .inl (fun _ => 0)))] U.heap ∧ va_K (dC, dI) vwCl [(kZ, .boolean)] U)) (vp_Si (fun r => r = an_order p0 p1 p2)) 0 0 (fun _ => False) := by
  refine Met.ofW (cc := cX5_order) (maxL := 9) (ret := (some .int)) (by decide) rfl ?_
  intro p e s m args below meth c s₁ B hml hv
  obtain ⟨rfl, hP, hK⟩ := hv
  have hx := B.exec
  have hb := B.bytes
  have hr := B.returns
  have hts := atoms_spec (ws := wsX5_order) B.pre
  have hown : s.vm.findClass RX5 = some m.cls := findClass_of_methodNamed B.named
  have hlocks := B.notSynchronized
  have hl := lv_entry ([.ref g0, .int p0, .int p1, .int p2]) (n := 9) (Nat.le_of_ble_eq_true rfl)
  rw [lg_entry_eq]
  generalize (lg_sl ([.ref g0, .int p0, .int p1, .int p2]) ++ List.replicate (9 - (lg_sl ([.ref g0, .int p0, .int p1, .int p2])).length) Slot.unset).toArray = ls at hl ⊢
  have hl : lv_has ls 9 [(0, .ref g0), (1, .int p0), (2, .int p1), (3, .int p2)] := hl
  refine lv_iload_n hx hb dX5_order_0 rfl (lv_at hl 1 rfl) ?_
  refine vp_callSi (W.runS (As := [.int p0]) (rest := []) ⟨hx, hb, hml, hown, hts⟩ (kX5_isStream l p0) (va_cwS 1 hts gX5_order_X5_isStream rfl rfl rfl (by decide +kernel) ⟨Nat.le_of_ble_eq_true rfl, Nat.le_of_ble_eq_true rfl⟩) ⟨fun a U g mk q => q, fun U hU hW => ⟨rfl, trivial⟩⟩ rfl rfl hl.1 rfl (lv_room (Nat.le_of_ble_eq_true rfl)) dX5_order_1 ⟨Nat.le_of_ble_eq_true rfl, Nat.le_of_ble_eq_true rfl⟩) (fun r_1 hwr_1 => ?_)
  rcases hwr_1 with ⟨rfl, hwr_1⟩ | ⟨rfl, hwr_1⟩
  · refine lv_if_eq (tgt := 23) hx hb dX5_order_4 (by decide) (fun c_2 => False.elim (by revert c_2; decide)) (fun _ => ?_)
    refine lv_iload_n hx hb dX5_order_7 rfl (lv_at hl 2 rfl) ?_
    refine vp_callSi (W.runS (As := [.int p1]) (rest := []) ⟨hx, hb, hml, hown, hts⟩ (kX5_isStream l p1) (va_cwS 1 hts gX5_order_X5_isStream rfl rfl rfl (by decide +kernel) ⟨Nat.le_of_ble_eq_true rfl, Nat.le_of_ble_eq_true rfl⟩) ⟨fun a U g mk q => q, fun U hU hW => ⟨rfl, trivial⟩⟩ rfl rfl hl.1 rfl (lv_room (Nat.le_of_ble_eq_true rfl)) dX5_order_8 ⟨Nat.le_of_ble_eq_true rfl, Nat.le_of_ble_eq_true rfl⟩) (fun r_3 hwr_3 => ?_)
    rcases hwr_3 with ⟨rfl, hwr_3⟩ | ⟨rfl, hwr_3⟩
    · refine lv_if_eq (tgt := 23) hx hb dX5_order_11 (by decide) (fun c_4 => False.elim (by revert c_4; decide)) (fun _ => ?_)
      refine lv_iload_n hx hb dX5_order_14 rfl (lv_at hl 3 rfl) ?_
      refine lv_if_lt (tgt := 23) hx hb dX5_order_15 (by decide) (fun c_5 => ?_) (fun c_5 => ?_)
      · have zc_5 : p2.toInt < (0 : Int) := zz_lt rfl (by decide) c_5
        refine lv_iconst (v := (-1)) hx hb dX5_order_23 (by decide) ?_
        exact W.iret (v := (-1)) hx hb hr (fun t ht hW => ⟨(-1), rfl, by unfold an_order; first | rw [if_pos (by omega)] | rw [if_neg (by omega)], ht⟩) (fun q h => by cases h) dX5_order_24
      · have zc_5 : p2.toInt ≥ (0 : Int) := zz_nlt rfl (by decide) c_5
        refine lv_iload_n hx hb dX5_order_18 rfl (lv_at hl 3 rfl) ?_
        refine lv_iconst (v := 2) hx hb dX5_order_19 (by decide) ?_
        refine lv_icmp_le (tgt := 25) hx hb dX5_order_20 (by decide) (fun c_6 => ?_) (fun c_6 => ?_)
        · have zc_6 : p2.toInt ≤ (2 : Int) := zz_le rfl (by decide) c_6
          refine lv_aload_n hx hb dX5_order_25 rfl (lv_at hl 0 rfl) ?_
          refine va_get (D := (dC, dI)) (ci := 4) (v := .ref g1) (C := RX5) (T := TX5) (N := 23) hx hb hts (by decide +kernel) hown hK hP 0 rfl rfl 0 (by decide) (hts (.fieldLink RX5 7 "SignFormsModel" "isOpen" "[Z") (by decide +kernel)) (fun _ h9 => h9) rfl dX5_order_26 ?_
          refine lv_iload_n hx hb dX5_order_29 rfl (lv_at hl 1 rfl) ?_
          refine va_zald hx hb hK hP 1 0 rfl rfl (vp_in_iff.mpr (by omega)) dX5_order_30 ?_
          refine W.eq (g2 := F0 m 31 ls [.int 0]) rfl ?_
          refine lv_if_eq (tgt := 43) hx hb dX5_order_31 (by decide) (fun _ => ?_) (fun c_7 => False.elim (by revert c_7; decide))
          refine lv_bipush (v := (-2)) hx hb dX5_order_43 (by decide) ?_
          exact W.iret (v := (-2)) hx hb hr (fun t ht hW => ⟨(-2), rfl, by unfold an_order; first | rw [if_pos (by omega)] | rw [if_neg (by omega)], ht⟩) (fun q h => by cases h) dX5_order_45
        · have zc_6 : p2.toInt > (2 : Int) := zz_nle rfl (by decide) c_6
          refine lv_iconst (v := (-1)) hx hb dX5_order_23 (by decide) ?_
          exact W.iret (v := (-1)) hx hb hr (fun t ht hW => ⟨(-1), rfl, by unfold an_order; first | rw [if_pos (by omega)] | rw [if_neg (by omega)], ht⟩) (fun q h => by cases h) dX5_order_24
    · refine lv_if_eq (tgt := 23) hx hb dX5_order_11 (by decide) (fun _ => ?_) (fun c_8 => False.elim (by revert c_8; decide))
      refine lv_iconst (v := (-1)) hx hb dX5_order_23 (by decide) ?_
      exact W.iret (v := (-1)) hx hb hr (fun t ht hW => ⟨(-1), rfl, by unfold an_order; first | rw [if_pos (by omega)] | rw [if_neg (by omega)], ht⟩) (fun q h => by cases h) dX5_order_24
  · refine lv_if_eq (tgt := 23) hx hb dX5_order_4 (by decide) (fun _ => ?_) (fun c_9 => False.elim (by revert c_9; decide))
    refine lv_iconst (v := (-1)) hx hb dX5_order_23 (by decide) ?_
    exact W.iret (v := (-1)) hx hb hr (fun t ht hW => ⟨(-1), rfl, by unfold an_order; first | rw [if_pos (by omega)] | rw [if_neg (by omega)], ht⟩) (fun q h => by cases h) dX5_order_24
set_option maxHeartbeats 4000000 in
set_option maxRecDepth 100000 in
theorem kX5_among (l : Launch) (dC : Nat → ClassId) (dI : Nat → Nat → Nat) (g0 g1 g2 g3 g4 g5 g6 g7 g8 g9 g10 g11 g12 g13 g14 g15 g16 g17 g18 g19 : Nat) (kZ : ClassId) (p0 : Int32) (p1 : Int32) (p2 : Int32) : Met l yX5_among wsX5_among ({ frames := 1, cells := 0, slots := 0, locals := 20 } : Room) (va_Pc [.ref g0, .int p0, .int p1, .int p2] (fun U => va_P (dC, dI) vwCl [(g0, .inr (4, [.ref g1, .ref g2, .ref g3, .ref g4, .ref g5, .ref g6, .ref g7, .ref g8, .ref g9, .ref g10, .ref g11, .ref g12, .ref g13, .ref g14, .ref g15, .ref g16, .ref g17, .ref g18, .int 0, .ref g19, .int 0, .int 0, .int 0])), (g1, .inl (kZ, 4, .inl (fun _ => 0)))] U.heap ∧ va_K (dC, dI) vwCl [(kZ, .boolean)] U)) (vp_Si (fun r => r = an_end p0)) 0 0 (fun _ => False) := by
  refine Met.ofW (cc := cX5_among) (maxL := 7) (ret := (some .int)) (by decide) rfl ?_
  intro p e s m args below meth c s₁ B hml hv
  obtain ⟨rfl, hP, hK⟩ := hv
  have hx := B.exec
  have hb := B.bytes
  have hr := B.returns
  have hts := atoms_spec (ws := wsX5_among) B.pre
  have hown : s.vm.findClass RX5 = some m.cls := findClass_of_methodNamed B.named
  have hlocks := B.notSynchronized
  have hl := lv_entry ([.ref g0, .int p0, .int p1, .int p2]) (n := 7) (Nat.le_of_ble_eq_true rfl)
  rw [lg_entry_eq]
  generalize (lg_sl ([.ref g0, .int p0, .int p1, .int p2]) ++ List.replicate (7 - (lg_sl ([.ref g0, .int p0, .int p1, .int p2])).length) Slot.unset).toArray = ls at hl ⊢
  have hl : lv_has ls 7 [(0, .ref g0), (1, .int p0), (2, .int p1), (3, .int p2)] := hl
  refine lv_iload_n hx hb dX5_among_0 rfl (lv_at hl 1 rfl) ?_
  refine vp_callSi (W.runS (As := [.int p0]) (rest := []) ⟨hx, hb, hml, hown, hts⟩ (kX5_isStream l p0) (va_cwS 1 hts gX5_among_X5_isStream rfl rfl rfl (by decide +kernel) ⟨Nat.le_of_ble_eq_true rfl, Nat.le_of_ble_eq_true rfl⟩) ⟨fun a U g mk q => q, fun U hU hW => ⟨rfl, trivial⟩⟩ rfl rfl hl.1 rfl (lv_room (Nat.le_of_ble_eq_true rfl)) dX5_among_1 ⟨Nat.le_of_ble_eq_true rfl, Nat.le_of_ble_eq_true rfl⟩) (fun r_1 hwr_1 => ?_)
  rcases hwr_1 with ⟨rfl, hwr_1⟩ | ⟨rfl, hwr_1⟩
  · refine lv_if_ne (tgt := 9) hx hb dX5_among_4 (by decide) (fun _ => ?_) (fun c_2 => False.elim (by revert c_2; decide))
    refine lv_aload_n hx hb dX5_among_9 rfl (lv_at hl 0 rfl) ?_
    refine va_get (D := (dC, dI)) (ci := 4) (v := .ref g1) (C := RX5) (T := TX5) (N := 23) hx hb hts (by decide +kernel) hown hK hP 0 rfl rfl 0 (by decide) (hts (.fieldLink RX5 7 "SignFormsModel" "isOpen" "[Z") (by decide +kernel)) (fun _ h9 => h9) rfl dX5_among_10 ?_
    refine lv_iload_n hx hb dX5_among_13 rfl (lv_at hl 1 rfl) ?_
    refine va_zald hx hb hK hP 1 0 rfl rfl (vp_in_iff.mpr (by omega)) dX5_among_14 ?_
    refine W.eq (g2 := F0 m 15 ls [.int 0]) rfl ?_
    refine lv_if_ne (tgt := 21) hx hb dX5_among_15 (by decide) (fun c_3 => False.elim (by revert c_3; decide)) (fun _ => ?_)
    refine lv_bipush (v := (-2)) hx hb dX5_among_18 (by decide) ?_
    exact W.iret (v := (-2)) hx hb hr (fun t ht hW => ⟨(-2), rfl, by unfold an_end; first | rw [if_pos (by omega)] | rw [if_neg (by omega)], ht⟩) (fun q h => by cases h) dX5_among_20
  · refine lv_if_ne (tgt := 9) hx hb dX5_among_4 (by decide) (fun c_4 => False.elim (by revert c_4; decide)) (fun _ => ?_)
    refine lv_iconst (v := (-1)) hx hb dX5_among_7 (by decide) ?_
    exact W.iret (v := (-1)) hx hb hr (fun t ht hW => ⟨(-1), rfl, by unfold an_end; first | rw [if_pos (by omega)] | rw [if_neg (by omega)], ht⟩) (fun q h => by cases h) dX5_among_8
