set_option maxHeartbeats 4000000 in
set_option maxRecDepth 100000 in
theorem kX4_open (l : Launch) (dC : Nat → ClassId) (dI : Nat → Nat → Nat) (h0 h1 h2 h4 : Nat) (kS : ClassId) (sz : Nat) (p0 p1 p2 : Int32) : Met l yX4_open wsX4_open ({ frames := 3, cells := 7, slots := 10019, locals := 52 } : Room) (va_Pc [.ref h0, .int p0, .int p1, .int p2] (fun U => U.heap.size = sz ∧ va_P (dC, dI) vwCl [(h0, .inr (3, [.ref h1, .ref h2, .ref h4])), (h1, .inl (kS, 4, .inr (.inr (.inr (.inr (fun _ => none))))))] U.heap ∧ va_K (dC, dI) vwCl [(kS, .object "SignForms$Stream")] U ∧ va_D (fun _ => True) [(h0, .inr (3, [.ref h1, .ref h2, .ref h4])), (h1, .inl (kS, 4, .inr (.inr (.inr (.inr (fun _ => none))))))] ∧ va_Nw (.methodLinkNest RX3 29 yX2_init "SignForms") U)) (va_Qi (fun (r : Int32) (_ : Unit) => (r = 1 ∧ (0 ≤ p0.toInt ∧ p0.toInt < 4 ∧ 0 ≤ p1.toInt ∧ p1.toInt ≤ 6 ∧ 0 ≤ p2.toInt ∧ p2.toInt ≤ 2)) ∨ (r = 0 ∧ ¬ (0 ≤ p0.toInt ∧ p0.toInt < 4 ∧ 0 ≤ p1.toInt ∧ p1.toInt ≤ 6 ∧ 0 ≤ p2.toInt ∧ p2.toInt ≤ 2))) (fun _ _ => True) (va_A [(h0, .inr (3, [.ref h1, .ref h2, .ref h4])), (h1, .inl (kS, 4, .inr (.inr (.inr (.inr (fun _ => none))))))] sz)) 7 10019 (va_A [(h0, .inr (3, [.ref h1, .ref h2, .ref h4])), (h1, .inl (kS, 4, .inr (.inr (.inr (.inr (fun _ => none))))))] sz) := by
  refine Met.ofW (cc := cX4_open) (maxL := 5) (ret := (some .boolean)) (by decide) rfl ?_
  intro p e s m args below meth c s₁ B hml hv
  obtain ⟨rfl, hsz, hP, hK, hD0, hN⟩ := hv
  have hx := B.exec
  have hb := B.bytes
  have hr := B.returns
  have hts := atoms_spec (ws := wsX4_open) B.pre
  have hown : s.vm.findClass RX4 = some m.cls := findClass_of_methodNamed B.named
  have hlocks := B.notSynchronized
  subst hsz
  have hD := hD0.self (sz := s.heap.size)
  generalize hAe : va_A [(h0, .inr (3, [.ref h1, .ref h2, .ref h4])), (h1, .inl (kS, 4, .inr (.inr (.inr (.inr (fun _ => none))))))] s.heap.size = A at hD ⊢
  have hA : ∀ q : Nat, s.heap.size ≤ q → A q := fun q h => by rw [← hAe]; exact Or.inr h
  have hS : va_S A s.heap s.heap [] := va_S.rf
  have hl := lv_entry ([.ref h0, .int p0, .int p1, .int p2]) (n := 5) (Nat.le_of_ble_eq_true rfl)
  rw [lg_entry_eq]
  generalize (lg_sl ([.ref h0, .int p0, .int p1, .int p2]) ++ List.replicate (5 - (lg_sl ([.ref h0, .int p0, .int p1, .int p2])).length) Slot.unset).toArray = ls at hl ⊢
  have hl : lv_has ls 5 [(0, .ref h0), (1, .int p0), (2, .int p1), (3, .int p2)] := hl
  refine lv_aload_n hx hb dX4_open_0 rfl (lv_at hl 0 rfl) ?_
  refine lv_iload_n hx hb dX4_open_1 rfl (lv_at hl 1 rfl) ?_
  have hPc := hP.sub (ws' := [(h0, .inr (3, [.ref h1, .ref h2, .ref h4])), (h1, .inl (kS, 4, .inr (.inr (.inr (.inr (fun _ => none))))))]) [0, 1] rfl
  have hKc := hK.sub (tys' := [(kS, .object "SignForms$Stream")]) [0] rfl
  refine vp_callSi (W.runV (As := [.int p0]) (rest := []) ⟨hx, hb, hml, hown, hts⟩ (kX4_isStream l dC dI h0 h1 h2 h4 kS p0) (cwV 1 hts gX4_open_X4_isStream rfl rfl rfl (by decide +kernel) ⟨Nat.le_of_ble_eq_true rfl, Nat.le_of_ble_eq_true rfl⟩) ⟨fun a U g mk q => by obtain ⟨q0, qP, qK⟩ := q; exact ⟨q0, qP, va_K.moved (u := U) (U := U.calling g mk a) (Vm.Alike.refl U.vm) qK⟩, va_recv hKc hPc (ci := 3) (q0 := 0) rfl rfl, fun U hU hW => ⟨rfl, by rw [hU]; exact hPc, va_K.moved hW.alike hKc⟩⟩ rfl rfl hl.1 rfl (lv_room (Nat.le_of_ble_eq_true rfl)) dX4_open_2 ⟨Nat.le_of_ble_eq_true rfl, Nat.le_of_ble_eq_true rfl⟩) (fun r_1 hwr_1 => ?_)
  rcases hwr_1 with ⟨rfl, hwr_1⟩ | ⟨rfl, hwr_1⟩
  · refine lv_if_eq (tgt := 18) hx hb dX4_open_5 (by decide) (fun c_2 => False.elim (by revert c_2; decide)) (fun _ => ?_)
    refine lv_iload_n hx hb dX4_open_8 rfl (lv_at hl 2 rfl) ?_
    refine lv_if_lt (tgt := 18) hx hb dX4_open_9 (by decide) (fun c_3 => ?_) (fun c_3 => ?_)
    · have zc_3 : p1.toInt < (0 : Int) := zz_lt rfl (by decide) c_3
      refine lv_iconst (v := 0) hx hb dX4_open_18 (by decide) ?_
      refine W.widen (k := 7) (n := 10019) (by omega) (by omega) ?_
      exact W.zret (v := 0) hx hb hr rfl (fun t ht hW => ⟨⟨0, (), rfl, Or.inr ⟨rfl, by omega⟩, trivial⟩, hS.F ht⟩) hS.2.2 dX4_open_19
    · have zc_3 : p1.toInt ≥ (0 : Int) := zz_nlt rfl (by decide) c_3
      refine lv_iload_n hx hb dX4_open_12 rfl (lv_at hl 2 rfl) ?_
      refine lv_bipush (v := 6) hx hb dX4_open_13 (by decide +kernel) ?_
      refine lv_icmp_le (tgt := 20) hx hb dX4_open_15 (by decide) (fun c_4 => ?_) (fun c_4 => ?_)
      · have zc_4 : p1.toInt ≤ (6 : Int) := zz_le rfl (by decide) c_4
        refine lv_iload_n hx hb dX4_open_20 rfl (lv_at hl 3 rfl) ?_
        refine lv_if_lt (tgt := 29) hx hb dX4_open_21 (by decide) (fun c_5 => ?_) (fun c_5 => ?_)
        · have zc_5 : p2.toInt < (0 : Int) := zz_lt rfl (by decide) c_5
          refine lv_iconst (v := 0) hx hb dX4_open_29 (by decide) ?_
          refine W.widen (k := 7) (n := 10019) (by omega) (by omega) ?_
          exact W.zret (v := 0) hx hb hr rfl (fun t ht hW => ⟨⟨0, (), rfl, Or.inr ⟨rfl, by omega⟩, trivial⟩, hS.F ht⟩) hS.2.2 dX4_open_30
        · have zc_5 : p2.toInt ≥ (0 : Int) := zz_nlt rfl (by decide) c_5
          refine lv_iload_n hx hb dX4_open_24 rfl (lv_at hl 3 rfl) ?_
          refine lv_iconst (v := 2) hx hb dX4_open_25 (by decide) ?_
          refine lv_icmp_le (tgt := 31) hx hb dX4_open_26 (by decide) (fun c_6 => ?_) (fun c_6 => ?_)
          · have zc_6 : p2.toInt ≤ (2 : Int) := zz_le rfl (by decide) c_6
            refine lv_aload_n hx hb dX4_open_31 rfl (lv_at hl 0 rfl) ?_
            refine va_get (D := (dC, dI)) (ci := 3) (v := .ref h1) (C := RX4) (T := TX4) (N := 3) hx hb hts (by decide +kernel) hown hK hP 0 rfl rfl 0 (by decide) (hts (.fieldLink RX4 11 "SignForms" "streams" "[LSignForms$Stream;") (by decide +kernel)) (fun _ h9 => h9) rfl dX4_open_32 ?_
            refine lv_iload_n hx hb dX4_open_35 rfl (lv_at hl 1 rfl) ?_
            refine va_aldq hx hb hK hP 1 0 rfl rfl (vp_in_iff.mpr (by omega)) dX4_open_36 ?_
            refine W.eq (g2 := F0 m 37 ls [.null]) rfl ?_
            refine lv_astoreN (lv' := [(4, .null), (0, .ref h0), (1, .int p0), (2, .int p1), (3, .int p2)]) hx hb dX4_open_37 hl (by decide) rfl (fun ls hl => ?_)
            refine lv_aloadN hx hb dX4_open_39 (lv_at hl 0 rfl) ?_
            refine lv_ifnonnullN hx hb dX4_open_41 ?_
            refine va_new (ci := 2) (fs := [.null, .null, .null, .null, .null, .null, .int 0, .int 0, .int 0, .int 0, .int 0, .int 0, .int 0, .int 0, .int 0, .int 0]) (C := RX3) (T := TX3) (N := 16) hx hb hts (by decide +kernel) tyX3 tyX3_ok hown (hts (.classLink RX4 9 RX3) (by decide +kernel)) (hts (.instantiable RX3 16) (by decide +kernel)) (hts (.initialized RX3) (by decide +kernel)) hK hP hD hS hA rfl (fun j hj => by rcases (show j = 0 ∨ j = 1 ∨ j = 2 ∨ j = 3 ∨ j = 4 ∨ j = 5 ∨ j = 6 ∨ j = 7 ∨ j = 8 ∨ j = 9 ∨ j = 10 ∨ j = 11 ∨ j = 12 ∨ j = 13 ∨ j = 14 ∨ j = 15 by omega) with rfl | rfl | rfl | rfl | rfl | rfl | rfl | rfl | rfl | rfl | rfl | rfl | rfl | rfl | rfl | rfl <;> rfl) (Nat.le_of_ble_eq_true rfl) (Nat.le_of_ble_eq_true rfl) dX4_open_44 (fun q_7 H hP hD hS => ?_)
            have hP : va_P (dC, dI) vwCl [(h0, .inr (3, [.ref h1, .ref h2, .ref h4])), (h1, .inl (kS, 4, .inr (.inr (.inr (.inr (fun _ => none)))))), (q_7, .inr (2, [.null, .null, .null, .null, .null, .null, .int 0, .int 0, .int 0, .int 0, .int 0, .int 0, .int 0, .int 0, .int 0, .int 0]))] H := hP
            have hD : va_D A [(h0, .inr (3, [.ref h1, .ref h2, .ref h4])), (h1, .inl (kS, 4, .inr (.inr (.inr (.inr (fun _ => none)))))), (q_7, .inr (2, [.null, .null, .null, .null, .null, .null, .int 0, .int 0, .int 0, .int 0, .int 0, .int 0, .int 0, .int 0, .int 0, .int 0]))] := hD
            refine W.widen (k := 1) (n := 16) (by omega) (by omega) ?_
            refine lv_dup hx hb dX4_open_47 rfl ?_
            have hPc := hP.sub (ws' := [(q_7, .inr (2, [.null, .null, .null, .null, .null, .null, .int 0, .int 0, .int 0, .int 0, .int 0, .int 0, .int 0, .int 0, .int 0, .int 0]))]) [2] rfl
            have hKc := hK.sub (tys' := []) [] rfl
            have hDc := hD.sub (ws' := [(q_7, .inr (2, [.null, .null, .null, .null, .null, .null, .int 0, .int 0, .int 0, .int 0, .int 0, .int 0, .int 0, .int 0, .int 0, .int 0]))]) [2] (by decide) rfl
            have hFc := va_free (wc := [(q_7, .inr (2, [.null, .null, .null, .null, .null, .null, .int 0, .int 0, .int 0, .int 0, .int 0, .int 0, .int 0, .int 0, .int 0, .int 0]))]) hD hS hA [2] rfl
            refine va_callv (va_runI (As := []) (rest := [.ref q_7]) ⟨hx, hb, hml, hown, hts⟩ (kX3_init l dC dI q_7 H.size) (cwI 0 hts gX4_open_X3_init rfl rfl rfl (hts (.initialized RX3) (by decide +kernel)) (hts (.methodLink RX4 33 yX3_init) (by decide +kernel)) (hts (.instanceMethod yX3_init) (by decide +kernel)) rfl (by decide +kernel) ⟨Nat.le_of_ble_eq_true rfl, Nat.le_of_ble_eq_true rfl⟩) ⟨fun a U g mk q => by obtain ⟨q0, q1, qP, qK, qD, qn0⟩ := q; exact ⟨q0, q1, qP, va_K.moved (u := U) (U := U.calling g mk a) (Vm.Alike.refl U.vm) qK, qD, va_Nw.same (u := U) (U := U.calling g mk a) rfl rfl qn0⟩, fun U hU hW => ⟨rfl, by rw [hU], by rw [hU]; exact hPc, va_K.moved hW.alike hKc, hDc.weaken (fun _ _ _ _ => trivial), va_Nw.warmM hW hN⟩⟩ rfl rfl hl.1 rfl (lv_room (Nat.le_of_ble_eq_true rfl)) dX4_open_48 ⟨Nat.le_of_ble_eq_true rfl, Nat.le_of_ble_eq_true rfl⟩) hS (fun q _ h => hFc q h) hFc (fun u t H1 locs ht hvm hwr_8 hB hz1 hk1 hS => ?_)
            obtain ⟨q_9, q_10, q_11, q_12, q_13, q_14, hP1, hK1, hD1⟩ := hB
            rw [ht] at hP1
            obtain ⟨hP, hD⟩ := va_join (wr := [(h0, .inr (3, [.ref h1, .ref h2, .ref h4])), (h1, .inl (kS, 4, .inr (.inr (.inr (.inr (fun _ => none))))))]) (w1 := [(q_7, .inr (2, [.ref q_9, .ref q_10, .ref q_11, .ref q_12, .ref q_13, .ref q_14, .int 0, .int 0, .int 0, .int 0, .int 0, .int 0, .int 0, .int 0, .int 0, .int 0]))]) hP hD [2] [0, 1] rfl rfl (by decide) (by decide) hk1 hFc hP1 hD1
            generalize H1 = H at hP hS ⊢
            have hP : va_P (dC, dI) vwCl [(h0, .inr (3, [.ref h1, .ref h2, .ref h4])), (h1, .inl (kS, 4, .inr (.inr (.inr (.inr (fun _ => none)))))), (q_7, .inr (2, [.ref q_9, .ref q_10, .ref q_11, .ref q_12, .ref q_13, .ref q_14, .int 0, .int 0, .int 0, .int 0, .int 0, .int 0, .int 0, .int 0, .int 0, .int 0]))] H := hP
            have hD : va_D A [(h0, .inr (3, [.ref h1, .ref h2, .ref h4])), (h1, .inl (kS, 4, .inr (.inr (.inr (.inr (fun _ => none)))))), (q_7, .inr (2, [.ref q_9, .ref q_10, .ref q_11, .ref q_12, .ref q_13, .ref q_14, .int 0, .int 0, .int 0, .int 0, .int 0, .int 0, .int 0, .int 0, .int 0, .int 0]))] := hD
            refine W.widen (k := 7) (n := 10019) (by omega) (by omega) ?_
            refine lv_astore (lv' := [(4, .ref q_7), (0, .ref h0), (1, .int p0), (2, .int p1), (3, .int p2)]) hx hb dX4_open_51 hl (by decide) rfl (fun ls hl => ?_)
            refine lv_aload_n hx hb dX4_open_53 rfl (lv_at hl 1 rfl) ?_
            refine va_get (D := (dC, dI)) (ci := 3) (v := .ref h1) (C := RX4) (T := TX4) (N := 3) hx hb hts (by decide +kernel) hown hK hP 0 rfl rfl 0 (by decide) (hts (.fieldLink RX4 11 "SignForms" "streams" "[LSignForms$Stream;") (by decide +kernel)) (fun _ h9 => h9) rfl dX4_open_54 ?_
            refine lv_iload_n hx hb dX4_open_57 rfl (lv_at hl 2 rfl) ?_
            refine lv_aload hx hb dX4_open_58 (lv_at hl 0 rfl) ?_
            refine va_astq hx hb hK hP hD hS 1 0 2 2 rfl rfl rfl rfl (vp_in_iff.mpr (by omega)) dX4_open_60 (fun H locs hP hD hS => ?_)
            have hP : va_P (dC, dI) vwCl [(h0, .inr (3, [.ref h1, .ref h2, .ref h4])), (h1, .inl (kS, 4, .inr (.inr (.inr (.inr (va_up (fun _ => none) (p0).toNatClampNeg (some q_7))))))), (q_7, .inr (2, [.ref q_9, .ref q_10, .ref q_11, .ref q_12, .ref q_13, .ref q_14, .int 0, .int 0, .int 0, .int 0, .int 0, .int 0, .int 0, .int 0, .int 0, .int 0]))] H := hP
            have hD : va_D A [(h0, .inr (3, [.ref h1, .ref h2, .ref h4])), (h1, .inl (kS, 4, .inr (.inr (.inr (.inr (va_up (fun _ => none) (p0).toNatClampNeg (some q_7))))))), (q_7, .inr (2, [.ref q_9, .ref q_10, .ref q_11, .ref q_12, .ref q_13, .ref q_14, .int 0, .int 0, .int 0, .int 0, .int 0, .int 0, .int 0, .int 0, .int 0, .int 0]))] := hD
            refine lv_aload hx hb dX4_open_61 (lv_at hl 0 rfl) ?_
            refine lv_iload_n hx hb dX4_open_63 rfl (lv_at hl 3 rfl) ?_
            refine lv_iload_n hx hb dX4_open_64 rfl (lv_at hl 4 rfl) ?_
            have hPc := hP.sub (ws' := [(q_7, .inr (2, [.ref q_9, .ref q_10, .ref q_11, .ref q_12, .ref q_13, .ref q_14, .int 0, .int 0, .int 0, .int 0, .int 0, .int 0, .int 0, .int 0, .int 0, .int 0]))]) [2] rfl
            have hKc := hK.sub (tys' := []) [] rfl
            have hDc := hD.sub (ws' := [(q_7, .inr (2, [.ref q_9, .ref q_10, .ref q_11, .ref q_12, .ref q_13, .ref q_14, .int 0, .int 0, .int 0, .int 0, .int 0, .int 0, .int 0, .int 0, .int 0, .int 0]))]) [2] (by decide) rfl
            have hFc := va_free (wc := [(q_7, .inr (2, [.ref q_9, .ref q_10, .ref q_11, .ref q_12, .ref q_13, .ref q_14, .int 0, .int 0, .int 0, .int 0, .int 0, .int 0, .int 0, .int 0, .int 0, .int 0]))]) hD hS hA [2] rfl
            refine va_callv (va_runV (As := [.int p1, .int p2]) (rest := []) ⟨hx, hb, hml, hown, hts⟩ (kX3_begin l dC dI q_7 q_9 q_10 q_11 q_12 q_13 q_14 H.size p1 p2) (cwV 2 hts gX4_open_X3_begin rfl rfl rfl (by decide +kernel) ⟨Nat.le_of_ble_eq_true rfl, Nat.le_of_ble_eq_true rfl⟩) ⟨fun a U g mk q => by obtain ⟨q0, q1, qP, qK, qD⟩ := q; exact ⟨q0, q1, qP, va_K.moved (u := U) (U := U.calling g mk a) (Vm.Alike.refl U.vm) qK, qD⟩, va_recv hKc hPc (ci := 2) (q0 := 0) rfl rfl, fun U hU hW => ⟨rfl, by rw [hU], by rw [hU]; exact hPc, va_K.moved hW.alike hKc, hDc.weaken (fun _ _ _ _ => trivial)⟩⟩ rfl rfl hl.1 rfl (lv_room (Nat.le_of_ble_eq_true rfl)) dX4_open_65 ⟨Nat.le_of_ble_eq_true rfl, Nat.le_of_ble_eq_true rfl⟩) hS (fun q _ h => hFc q h) hFc (fun u t H1 locs ht hvm hwr_15 hB hz1 hk1 hS => ?_)
            have hP1 : va_P (dC, dI) vwCl [] t.heap := fun k q h => by simp at h
            have hD1 : va_D (va_A [(q_7, .inr (2, [.ref q_9, .ref q_10, .ref q_11, .ref q_12, .ref q_13, .ref q_14, .int 0, .int 0, .int 0, .int 0, .int 0, .int 0, .int 0, .int 0, .int 0, .int 0]))] H.size) [] := ⟨fun i j p q h => by simp at h, fun k q h => by simp at h⟩
            rw [ht] at hP1
            obtain ⟨hP, hD⟩ := va_join (wr := [(h0, .inr (3, [.ref h1, .ref h2, .ref h4])), (h1, .inl (kS, 4, .inr (.inr (.inr (.inr (va_up (fun _ => none) (p0).toNatClampNeg (some q_7)))))))]) (w1 := []) hP hD [2] [0, 1] rfl rfl (by decide) (by decide) hk1 hFc hP1 hD1
            generalize H1 = H at hP hS ⊢
            have hP : va_P (dC, dI) vwCl [(h0, .inr (3, [.ref h1, .ref h2, .ref h4])), (h1, .inl (kS, 4, .inr (.inr (.inr (.inr (va_up (fun _ => none) (p0).toNatClampNeg (some q_7)))))))] H := hP
            have hD : va_D A [(h0, .inr (3, [.ref h1, .ref h2, .ref h4])), (h1, .inl (kS, 4, .inr (.inr (.inr (.inr (va_up (fun _ => none) (p0).toNatClampNeg (some q_7)))))))] := hD
            refine lv_iconst (v := 1) hx hb dX4_open_68 (by decide) ?_
            refine W.widen (k := 7) (n := 10019) (by omega) (by omega) ?_
            exact W.zret (v := 1) hx hb hr rfl (fun t ht hW => ⟨⟨1, (), rfl, Or.inl ⟨rfl, by omega⟩, trivial⟩, hS.F ht⟩) hS.2.2 dX4_open_69
          · have zc_6 : p2.toInt > (2 : Int) := zz_nle rfl (by decide) c_6
            refine lv_iconst (v := 0) hx hb dX4_open_29 (by decide) ?_
            refine W.widen (k := 7) (n := 10019) (by omega) (by omega) ?_
            exact W.zret (v := 0) hx hb hr rfl (fun t ht hW => ⟨⟨0, (), rfl, Or.inr ⟨rfl, by omega⟩, trivial⟩, hS.F ht⟩) hS.2.2 dX4_open_30
      · have zc_4 : p1.toInt > (6 : Int) := zz_nle rfl (by decide) c_4
        refine lv_iconst (v := 0) hx hb dX4_open_18 (by decide) ?_
        refine W.widen (k := 7) (n := 10019) (by omega) (by omega) ?_
        exact W.zret (v := 0) hx hb hr rfl (fun t ht hW => ⟨⟨0, (), rfl, Or.inr ⟨rfl, by omega⟩, trivial⟩, hS.F ht⟩) hS.2.2 dX4_open_19
  · refine lv_if_eq (tgt := 18) hx hb dX4_open_5 (by decide) (fun _ => ?_) (fun c_16 => False.elim (by revert c_16; decide))
    refine lv_iconst (v := 0) hx hb dX4_open_18 (by decide) ?_
    refine W.widen (k := 7) (n := 10019) (by omega) (by omega) ?_
    exact W.zret (v := 0) hx hb hr rfl (fun t ht hW => ⟨⟨0, (), rfl, Or.inr ⟨rfl, by omega⟩, trivial⟩, hS.F ht⟩) hS.2.2 dX4_open_19
