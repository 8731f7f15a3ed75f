set_option maxHeartbeats 40000000 in
set_option maxRecDepth 100000 in
theorem whole_start {p : Program} {e : Env} {s : State} {m : MethodId} {below : List Frame} {meth : Method} {c : Code} (l : Launch) {b L : Nat} {xs : Nat → Int32} (hL : L ≤ 5) (C0 : lw_At p s m meth c b L xs) : W p l e room_1 s m #[Value.ref b] below meth c s.heap [] 0 0 (lw_Z below #[Value.ref b] s) (entryFrame m ([Value.ref b] : List Value).toArray 4) := by
  obtain ⟨hx, hb, hr, hml, hown, hts0, hX, hbl, hlocks, hgv⟩ := id C0
  have hown : s.vm.findClass RL = some m.cls := hown
  have hb : c.code = cL_law := hb
  have hts : ∀ w ∈ wsL_law, w.before #[Value.ref b] s = true := fun w h => hts0 w (wsL_law_in w h)
  have hAO : va_AO "SignForms$Stream" s := va_AO.of (hts0 _ lq_ao)
  have hN4 : va_Nw (.methodLinkNest RX4 24 yX2_init "SignForms") s := va_Nw.of rfl (hts0 _ lq_n4)
  have hN3 : va_Nw (.methodLinkNest RX3 29 yX2_init "SignForms") s := va_Nw.of rfl (hts0 _ lq_n3)
  have hA : ∀ q : Nat, s.heap.size ≤ q → (fun q : Nat => s.heap.size ≤ q) q := fun _ h => h
  have hbA : ¬ (fun q : Nat => s.heap.size ≤ q) b := Nat.not_le.mpr hbl
  obtain ⟨c0, iS0, hKn0⟩ := u_known (C := RX1) (T := TX1) (N := 2) (n := 2) hts0 inX1 (hts0 _ lq_iX1)
  obtain ⟨c1, iS1, hKn1⟩ := u_known (C := RX2) (T := TX2) (N := 3) (n := 3) hts0 inX2 (hts0 _ lq_iX2)
  obtain ⟨c2, iS2, hKn2⟩ := u_known (C := RX3) (T := TX3) (N := 16) (n := 16) hts0 inX3 (hts0 _ lq_iX3)
  obtain ⟨c3, iS3, hKn3⟩ := u_known (C := RX4) (T := TX4) (N := 3) (n := 3) hts0 inX4 (hts0 _ lq_iX4)
  obtain ⟨c4, iS4, hKn4⟩ := u_known (C := RX5) (T := TX5) (N := 23) (n := 23) hts0 inX5 (hts0 _ lq_iX5)
  obtain ⟨dC, dI, hKc⟩ : ∃ (dC : Nat → ClassId) (dI : Nat → Nat → Nat), ∀ (k : Nat) (q : vw_C), vwCl[k]? = some q → u_Kn s q.1 q.2.1 q.2.2 (dC k) (dI k) := by
    refine ⟨fun k => if k = 0 then c0 else if k = 1 then c1 else if k = 2 then c2 else if k = 3 then c3 else c4, fun k => if k = 0 then iS0 else if k = 1 then iS1 else if k = 2 then iS2 else if k = 3 then iS3 else iS4, ?_⟩
    intro k q hq
    match k, hq with
    | 0, hq => cases hq; exact hKn0
    | 1, hq => cases hq; exact hKn1
    | 2, hq => cases hq; exact hKn2
    | 3, hq => cases hq; exact hKn3
    | 4, hq => cases hq; exact hKn4
    | k + 5, hq => simp [vwCl] at hq
  have hS : va_S (fun q : Nat => s.heap.size ≤ q) s.heap s.heap [] := va_S.rf
  have hK : va_K (dC, dI) vwCl [] s := ⟨hKc, fun k q h => by simp at h⟩
  have hP : va_P (dC, dI) vwCl [] s.heap := fun k q h => by simp at h
  have hD : va_D (fun q : Nat => s.heap.size ≤ q) [] := ⟨fun i j p q h => by simp at h, fun k q h => by simp at h⟩
  have hl := lv_entry ([.ref b]) (n := 4) (Nat.le_of_ble_eq_true rfl)
  rw [lg_entry_eq]
  generalize (lg_sl ([.ref b]) ++ List.replicate (4 - (lg_sl ([.ref b])).length) Slot.unset).toArray = ls at hl ⊢
  have hl : lv_has ls 4 [(0, .ref b)] := hl
  refine va_new (ci := 3) (fs := [.null, .null, .null]) (C := RX4) (T := TX4) (N := 3) hx hb hts inlX4 tyX4 tyX4_ok hown (hts (.classLink RL 7 RX4) (by decide +kernel)) (hts (.instantiable RX4 3) (by decide +kernel)) (hts (.initialized RX4) (by decide +kernel)) hK hP hD hS hA rfl (fun j hj => by rcases (show j = 0 ∨ j = 1 ∨ j = 2 by omega) with rfl | rfl | rfl <;> rfl) (Nat.le_of_ble_eq_true rfl) (Nat.le_of_ble_eq_true rfl) dL_law_0 (fun h0 H hP hD hS => ?_)
  have hP : va_P (dC, dI) vwCl [(h0, .inr (3, [.null, .null, .null]))] H := hP
  have hD : va_D (fun q : Nat => s.heap.size ≤ q) [(h0, .inr (3, [.null, .null, .null]))] := hD
  refine W.widen (k := 1) (n := 3) (by omega) (by omega) ?_
  refine lv_dup hx hb dL_law_3 rfl ?_
  have hPc := hP.sub (ws' := [(h0, .inr (3, [.null, .null, .null]))]) [0] rfl
  have hKc := hK.sub (tys' := []) [] rfl
  have hDc := hD.sub (ws' := [(h0, .inr (3, [.null, .null, .null]))]) [0] (by decide) rfl
  have hFc := va_free (wc := [(h0, .inr (3, [.null, .null, .null]))]) hD hS hA [0] rfl
  refine va_callv (va_runI (As := []) (rest := [.ref h0]) ⟨hx, hb, hml, hown, hts⟩ (kX4_init l dC dI h0 H.size) (cwI 0 hts gL_law_X4_init rfl rfl rfl (hts (.initialized RX4) (by decide +kernel)) (hts (.methodLink RL 9 yX4_init) (by decide +kernel)) (hts (.instanceMethod yX4_init) (by decide +kernel)) rfl (by decide +kernel) ⟨Nat.le_of_ble_eq_true rfl, Nat.le_of_ble_eq_true rfl⟩) ⟨fun a U g mk q => by obtain ⟨q0, q1, qP, qK, qD, qn0, qn1⟩ := q; exact ⟨q0, q1, qP, va_K.moved (u := U) (U := U.calling g mk a) (Vm.Alike.refl U.vm) qK, qD, va_AO.moved (u := U) (U := U.calling g mk a) (Vm.Alike.refl U.vm) qn0, va_Nw.same (u := U) (U := U.calling g mk a) rfl rfl qn1⟩, fun U hU hW => ⟨rfl, by rw [hU], by rw [hU]; exact hPc, va_K.moved hW.alike hKc, hDc.weaken (fun _ _ _ _ => trivial), va_AO.moved hW.alike hAO, va_Nw.warmM hW hN4⟩⟩ rfl rfl hl.1 rfl (lv_room (Nat.le_of_ble_eq_true rfl)) dL_law_4 ⟨Nat.le_of_ble_eq_true rfl, Nat.le_of_ble_eq_true rfl⟩) hS (fun q _ h => hFc q h) hFc (fun u t H1 locs ht hvm hwr_1 hB hz1 hk1 hS => ?_)
  obtain ⟨h1, h2, h3, h4, kS, kI, hP1, hK1, hD1⟩ := hB
  rw [ht] at hP1
  have hK1 := va_K.moved hvm.symm hK1
  have hK := (hK.sub (tys' := []) [] rfl).app hK1
  obtain ⟨hP, hD⟩ := va_join (wr := []) (w1 := [(h0, .inr (3, [.ref h1, .ref h2, .ref h4])), (h1, .inl (kS, 4, .inr (.inr (.inr (.inr (fun _ => none)))))), (h2, .inr (0, [.ref h3, .int 0])), (h3, .inl (kI, 6000, .inl (fun _ => 0))), (h4, .inr (1, [.int 0, .int 0, .int 0]))]) hP hD [0] [] rfl rfl (by decide) (by decide) hk1 hFc hP1 hD1
  generalize H1 = H at hP hS ⊢
  have hP : va_P (dC, dI) vwCl [(h0, .inr (3, [.ref h1, .ref h2, .ref h4])), (h1, .inl (kS, 4, .inr (.inr (.inr (.inr (fun _ => none)))))), (h2, .inr (0, [.ref h3, .int 0])), (h3, .inl (kI, 6000, .inl (fun _ => 0))), (h4, .inr (1, [.int 0, .int 0, .int 0]))] H := hP
  have hD : va_D (fun q : Nat => s.heap.size ≤ q) [(h0, .inr (3, [.ref h1, .ref h2, .ref h4])), (h1, .inl (kS, 4, .inr (.inr (.inr (.inr (fun _ => none)))))), (h2, .inr (0, [.ref h3, .int 0])), (h3, .inl (kI, 6000, .inl (fun _ => 0))), (h4, .inr (1, [.int 0, .int 0, .int 0]))] := hD
  have hK : va_K (dC, dI) vwCl [(kS, .object "SignForms$Stream"), (kI, .int)] s := hK
  refine W.widen (k := 5) (n := 6012) (by omega) (by omega) ?_
  refine lv_astore_n (lv' := [(1, .ref h0), (0, .ref b)]) hx hb dL_law_7 rfl hl (by decide) rfl (fun ls hl => ?_)
  refine va_new (ci := 4) (fs := [.null, .null, .null, .null, .null, .null, .null, .null, .null, .null, .null, .null, .null, .null, .null, .null, .null, .null, .int 0, .null, .int 0, .int 0, .int 0]) (C := RX5) (T := TX5) (N := 23) hx hb hts inlX5 tyX5 tyX5_ok hown (hts (.classLink RL 10 RX5) (by decide +kernel)) (hts (.instantiable RX5 23) (by decide +kernel)) (hts (.initialized RX5) (by decide +kernel)) hK hP hD hS hA rfl (fun j hj => by rcases (show j = 0 ∨ j = 1 ∨ j = 2 ∨ j = 3 ∨ j = 4 ∨ j = 5 ∨ j = 6 ∨ j = 7 ∨ j = 8 ∨ j = 9 ∨ j = 10 ∨ j = 11 ∨ j = 12 ∨ j = 13 ∨ j = 14 ∨ j = 15 ∨ j = 16 ∨ j = 17 ∨ j = 18 ∨ j = 19 ∨ j = 20 ∨ j = 21 ∨ j = 22 by omega) with rfl | rfl | rfl | rfl | rfl | rfl | rfl | rfl | rfl | rfl | rfl | rfl | rfl | rfl | rfl | rfl | rfl | rfl | rfl | rfl | rfl | rfl | rfl <;> rfl) (Nat.le_of_ble_eq_true rfl) (Nat.le_of_ble_eq_true rfl) dL_law_8 (fun g0 H hP hD hS => ?_)
  have hP : va_P (dC, dI) vwCl [(h0, .inr (3, [.ref h1, .ref h2, .ref h4])), (h1, .inl (kS, 4, .inr (.inr (.inr (.inr (fun _ => none)))))), (h2, .inr (0, [.ref h3, .int 0])), (h3, .inl (kI, 6000, .inl (fun _ => 0))), (h4, .inr (1, [.int 0, .int 0, .int 0])), (g0, .inr (4, [.null, .null, .null, .null, .null, .null, .null, .null, .null, .null, .null, .null, .null, .null, .null, .null, .null, .null, .int 0, .null, .int 0, .int 0, .int 0]))] H := hP
  have hD : va_D (fun q : Nat => s.heap.size ≤ q) [(h0, .inr (3, [.ref h1, .ref h2, .ref h4])), (h1, .inl (kS, 4, .inr (.inr (.inr (.inr (fun _ => none)))))), (h2, .inr (0, [.ref h3, .int 0])), (h3, .inl (kI, 6000, .inl (fun _ => 0))), (h4, .inr (1, [.int 0, .int 0, .int 0])), (g0, .inr (4, [.null, .null, .null, .null, .null, .null, .null, .null, .null, .null, .null, .null, .null, .null, .null, .null, .null, .null, .int 0, .null, .int 0, .int 0, .int 0]))] := hD
  refine W.widen (k := 6) (n := 6035) (by omega) (by omega) ?_
  refine lv_dup hx hb dL_law_11 rfl ?_
  have hPc := hP.sub (ws' := [(g0, .inr (4, [.null, .null, .null, .null, .null, .null, .null, .null, .null, .null, .null, .null, .null, .null, .null, .null, .null, .null, .int 0, .null, .int 0, .int 0, .int 0]))]) [5] rfl
  have hKc := hK.sub (tys' := []) [] rfl
  have hDc := hD.sub (ws' := [(g0, .inr (4, [.null, .null, .null, .null, .null, .null, .null, .null, .null, .null, .null, .null, .null, .null, .null, .null, .null, .null, .int 0, .null, .int 0, .int 0, .int 0]))]) [5] (by decide) rfl
  have hFc := va_free (wc := [(g0, .inr (4, [.null, .null, .null, .null, .null, .null, .null, .null, .null, .null, .null, .null, .null, .null, .null, .null, .null, .null, .int 0, .null, .int 0, .int 0, .int 0]))]) hD hS hA [5] rfl
  refine va_callv (va_runI (As := []) (rest := [.ref g0]) ⟨hx, hb, hml, hown, hts⟩ (kX5_init l dC dI g0 H.size) (cwI 0 hts gL_law_X5_init rfl rfl rfl (hts (.initialized RX5) (by decide +kernel)) (hts (.methodLink RL 12 yX5_init) (by decide +kernel)) (hts (.instanceMethod yX5_init) (by decide +kernel)) rfl (by decide +kernel) ⟨Nat.le_of_ble_eq_true rfl, Nat.le_of_ble_eq_true rfl⟩) ⟨fun a U g mk q => by obtain ⟨q0, q1, qP, qK, qD⟩ := q; exact ⟨q0, q1, qP, va_K.moved (u := U) (U := U.calling g mk a) (Vm.Alike.refl U.vm) qK, qD⟩, fun U hU hW => ⟨rfl, by rw [hU], by rw [hU]; exact hPc, va_K.moved hW.alike hKc, hDc.weaken (fun _ _ _ _ => trivial)⟩⟩ rfl rfl hl.1 rfl (lv_room (Nat.le_of_ble_eq_true rfl)) dL_law_12 ⟨Nat.le_of_ble_eq_true rfl, Nat.le_of_ble_eq_true rfl⟩) hS (fun q _ h => hFc q h) hFc (fun u t H1 locs ht hvm hwr_2 hB hz1 hk1 hS => ?_)
  obtain ⟨g1, g2, g3, g4, g5, g6, g7, g8, g9, g10, g11, g12, g13, g14, g15, g16, g17, g18, g19, kG1, kG2, kG3, kG4, kG5, kG6, kG7, kG8, kG9, kG10, kG11, kG12, hP1, hK1, hD1⟩ := hB
  rw [ht] at hP1
  have hK1 := va_K.moved hvm.symm hK1
  have hK := (hK.sub (tys' := [(kS, .object "SignForms$Stream"), (kI, .int)]) [0, 1] rfl).app hK1
  obtain ⟨hP, hD⟩ := va_join (wr := [(h0, .inr (3, [.ref h1, .ref h2, .ref h4])), (h1, .inl (kS, 4, .inr (.inr (.inr (.inr (fun _ => none)))))), (h2, .inr (0, [.ref h3, .int 0])), (h3, .inl (kI, 6000, .inl (fun _ => 0))), (h4, .inr (1, [.int 0, .int 0, .int 0]))]) (w1 := [(g0, .inr (4, [.ref g1, .ref g2, .ref g3, .ref g4, .ref g5, .ref g6, .ref g7, .ref g8, .ref g9, .ref g10, .ref g11, .ref g12, .ref g13, .ref g14, .ref g15, .ref g16, .ref g17, .ref g18, .int 0, .ref g19, .int 0, .int 0, .int 0])), (g1, .inl (kG1, 4, .inl (fun _ => 0))), (g2, .inl (kG2, 4, .inl (fun _ => 0))), (g3, .inl (kG3, 4, .inl (fun _ => 0))), (g4, .inl (kG4, 4, .inl (fun _ => 0))), (g5, .inl (kG5, 4, .inl (fun _ => 0))), (g7, .inl (kG6, 4, .inl (fun _ => 0))), (g12, .inl (kG7, 4, .inl (fun _ => 0))), (g13, .inl (kG8, 4, .inl (fun _ => 0))), (g14, .inl (kG9, 4, .inl (fun _ => 0))), (g15, .inl (kG10, 4, .inl (fun _ => 0))), (g16, .inl (kG11, 4, .inl (fun _ => 0))), (g17, .inl (kG12, 4, .inl (fun _ => 0)))]) hP hD [5] [0, 1, 2, 3, 4] rfl rfl (by decide) (by decide) hk1 hFc hP1 hD1
  generalize H1 = H at hP hS ⊢
  have hP : va_P (dC, dI) vwCl [(h0, .inr (3, [.ref h1, .ref h2, .ref h4])), (h1, .inl (kS, 4, .inr (.inr (.inr (.inr (fun _ => none)))))), (h2, .inr (0, [.ref h3, .int 0])), (h3, .inl (kI, 6000, .inl (fun _ => 0))), (h4, .inr (1, [.int 0, .int 0, .int 0])), (g0, .inr (4, [.ref g1, .ref g2, .ref g3, .ref g4, .ref g5, .ref g6, .ref g7, .ref g8, .ref g9, .ref g10, .ref g11, .ref g12, .ref g13, .ref g14, .ref g15, .ref g16, .ref g17, .ref g18, .int 0, .ref g19, .int 0, .int 0, .int 0])), (g1, .inl (kG1, 4, .inl (fun _ => 0))), (g2, .inl (kG2, 4, .inl (fun _ => 0))), (g3, .inl (kG3, 4, .inl (fun _ => 0))), (g4, .inl (kG4, 4, .inl (fun _ => 0))), (g5, .inl (kG5, 4, .inl (fun _ => 0))), (g7, .inl (kG6, 4, .inl (fun _ => 0))), (g12, .inl (kG7, 4, .inl (fun _ => 0))), (g13, .inl (kG8, 4, .inl (fun _ => 0))), (g14, .inl (kG9, 4, .inl (fun _ => 0))), (g15, .inl (kG10, 4, .inl (fun _ => 0))), (g16, .inl (kG11, 4, .inl (fun _ => 0))), (g17, .inl (kG12, 4, .inl (fun _ => 0)))] H := hP
  have hD : va_D (fun q : Nat => s.heap.size ≤ q) [(h0, .inr (3, [.ref h1, .ref h2, .ref h4])), (h1, .inl (kS, 4, .inr (.inr (.inr (.inr (fun _ => none)))))), (h2, .inr (0, [.ref h3, .int 0])), (h3, .inl (kI, 6000, .inl (fun _ => 0))), (h4, .inr (1, [.int 0, .int 0, .int 0])), (g0, .inr (4, [.ref g1, .ref g2, .ref g3, .ref g4, .ref g5, .ref g6, .ref g7, .ref g8, .ref g9, .ref g10, .ref g11, .ref g12, .ref g13, .ref g14, .ref g15, .ref g16, .ref g17, .ref g18, .int 0, .ref g19, .int 0, .int 0, .int 0])), (g1, .inl (kG1, 4, .inl (fun _ => 0))), (g2, .inl (kG2, 4, .inl (fun _ => 0))), (g3, .inl (kG3, 4, .inl (fun _ => 0))), (g4, .inl (kG4, 4, .inl (fun _ => 0))), (g5, .inl (kG5, 4, .inl (fun _ => 0))), (g7, .inl (kG6, 4, .inl (fun _ => 0))), (g12, .inl (kG7, 4, .inl (fun _ => 0))), (g13, .inl (kG8, 4, .inl (fun _ => 0))), (g14, .inl (kG9, 4, .inl (fun _ => 0))), (g15, .inl (kG10, 4, .inl (fun _ => 0))), (g16, .inl (kG11, 4, .inl (fun _ => 0))), (g17, .inl (kG12, 4, .inl (fun _ => 0)))] := hD
  have hK : va_K (dC, dI) vwCl [(kS, .object "SignForms$Stream"), (kI, .int), (kG1, .boolean), (kG2, .boolean), (kG3, .int), (kG4, .int), (kG5, .int), (kG6, .int), (kG7, .int), (kG8, .int), (kG9, .int), (kG10, .int), (kG11, .int), (kG12, .boolean)] s := hK
  refine W.widen (k := 25) (n := 58083) (by omega) (by omega) ?_
  refine lv_astore_n (lv' := [(2, .ref g0), (1, .ref h0), (0, .ref b)]) hx hb dL_law_15 rfl hl (by decide) rfl (fun ls hl => ?_)
  refine lv_iconst (v := 0) hx hb dL_law_16 (by decide) ?_
  refine lv_istore_n (lv' := [(3, .int 0), (2, .ref g0), (1, .ref h0), (0, .ref b)]) hx hb dL_law_17 rfl hl (by decide) rfl (fun ls hl => ?_)
  rcases (show L = 0 ∨ L = 1 ∨ L = 2 ∨ L = 3 ∨ L = 4 ∨ L = 5 by omega) with rfl | rfl | rfl | rfl | rfl | rfl
  · refine lv_iload_n hx hb dL_law_18 rfl (lv_at hl 0 rfl) ?_
    refine lv_aload_n hx hb dL_law_19 rfl (lv_at hl 3 rfl) ?_
    refine va_slen hx hb hX hbl hbA hS dL_law_20 ?_
    refine W.eq (g2 := F0 m 21 ls [.int 0, .int 0]) rfl ?_
    refine lv_iconst (v := 5) hx hb dL_law_21 (by decide) ?_
    refine lv_isub hx hb dL_law_22 ?_
    refine lv_topi (fun x_3 ex_3 => ?_)
    obtain rfl : x_3 = (-5) := ex_3.trans (by decide)
    refine lv_icmp_gt (tgt := 678) hx hb dL_law_23 (by decide) (fun _ => ?_) (fun c_4 => False.elim (by revert c_4; decide))
    refine lv_iconst (v := 1) hx hb dL_law_678 (by decide) ?_
    refine va_forget (fun q hq => hS.2.2 q hq) ?_
    refine W.widen (k := 600000) (n := 7302250) (by omega) (by omega) ?_
    exact lw_ret hx hb hr hlocks dL_law_679
  · refine lv_iload_n hx hb dL_law_18 rfl (lv_at hl 0 rfl) ?_
    refine lv_aload_n hx hb dL_law_19 rfl (lv_at hl 3 rfl) ?_
    refine va_slen hx hb hX hbl hbA hS dL_law_20 ?_
    refine W.eq (g2 := F0 m 21 ls [.int 1, .int 0]) rfl ?_
    refine lv_iconst (v := 5) hx hb dL_law_21 (by decide) ?_
    refine lv_isub hx hb dL_law_22 ?_
    refine lv_topi (fun x_5 ex_5 => ?_)
    obtain rfl : x_5 = (-4) := ex_5.trans (by decide)
    refine lv_icmp_gt (tgt := 678) hx hb dL_law_23 (by decide) (fun _ => ?_) (fun c_6 => False.elim (by revert c_6; decide))
    refine lv_iconst (v := 1) hx hb dL_law_678 (by decide) ?_
    refine va_forget (fun q hq => hS.2.2 q hq) ?_
    refine W.widen (k := 600000) (n := 7302250) (by omega) (by omega) ?_
    exact lw_ret hx hb hr hlocks dL_law_679
  · refine lv_iload_n hx hb dL_law_18 rfl (lv_at hl 0 rfl) ?_
    refine lv_aload_n hx hb dL_law_19 rfl (lv_at hl 3 rfl) ?_
    refine va_slen hx hb hX hbl hbA hS dL_law_20 ?_
    refine W.eq (g2 := F0 m 21 ls [.int 2, .int 0]) rfl ?_
    refine lv_iconst (v := 5) hx hb dL_law_21 (by decide) ?_
    refine lv_isub hx hb dL_law_22 ?_
    refine lv_topi (fun x_7 ex_7 => ?_)
    obtain rfl : x_7 = (-3) := ex_7.trans (by decide)
    refine lv_icmp_gt (tgt := 678) hx hb dL_law_23 (by decide) (fun _ => ?_) (fun c_8 => False.elim (by revert c_8; decide))
    refine lv_iconst (v := 1) hx hb dL_law_678 (by decide) ?_
    refine va_forget (fun q hq => hS.2.2 q hq) ?_
    refine W.widen (k := 600000) (n := 7302250) (by omega) (by omega) ?_
    exact lw_ret hx hb hr hlocks dL_law_679
  · refine lv_iload_n hx hb dL_law_18 rfl (lv_at hl 0 rfl) ?_
    refine lv_aload_n hx hb dL_law_19 rfl (lv_at hl 3 rfl) ?_
    refine va_slen hx hb hX hbl hbA hS dL_law_20 ?_
    refine W.eq (g2 := F0 m 21 ls [.int 3, .int 0]) rfl ?_
    refine lv_iconst (v := 5) hx hb dL_law_21 (by decide) ?_
    refine lv_isub hx hb dL_law_22 ?_
    refine lv_topi (fun x_9 ex_9 => ?_)
    obtain rfl : x_9 = (-2) := ex_9.trans (by decide)
    refine lv_icmp_gt (tgt := 678) hx hb dL_law_23 (by decide) (fun _ => ?_) (fun c_10 => False.elim (by revert c_10; decide))
    refine lv_iconst (v := 1) hx hb dL_law_678 (by decide) ?_
    refine va_forget (fun q hq => hS.2.2 q hq) ?_
    refine W.widen (k := 600000) (n := 7302250) (by omega) (by omega) ?_
    exact lw_ret hx hb hr hlocks dL_law_679
  · refine lv_iload_n hx hb dL_law_18 rfl (lv_at hl 0 rfl) ?_
    refine lv_aload_n hx hb dL_law_19 rfl (lv_at hl 3 rfl) ?_
    refine va_slen hx hb hX hbl hbA hS dL_law_20 ?_
    refine W.eq (g2 := F0 m 21 ls [.int 4, .int 0]) rfl ?_
    refine lv_iconst (v := 5) hx hb dL_law_21 (by decide) ?_
    refine lv_isub hx hb dL_law_22 ?_
    refine lv_topi (fun x_11 ex_11 => ?_)
    obtain rfl : x_11 = (-1) := ex_11.trans (by decide)
    refine lv_icmp_gt (tgt := 678) hx hb dL_law_23 (by decide) (fun _ => ?_) (fun c_12 => False.elim (by revert c_12; decide))
    refine lv_iconst (v := 1) hx hb dL_law_678 (by decide) ?_
    refine va_forget (fun q hq => hS.2.2 q hq) ?_
    refine W.widen (k := 600000) (n := 7302250) (by omega) (by omega) ?_
    exact lw_ret hx hb hr hlocks dL_law_679
  · refine lv_iload_n hx hb dL_law_18 rfl (lv_at hl 0 rfl) ?_
    refine lv_aload_n hx hb dL_law_19 rfl (lv_at hl 3 rfl) ?_
    refine va_slen hx hb hX hbl hbA hS dL_law_20 ?_
    refine W.eq (g2 := F0 m 21 ls [.int 5, .int 0]) rfl ?_
    refine lv_iconst (v := 5) hx hb dL_law_21 (by decide) ?_
    refine lv_isub hx hb dL_law_22 ?_
    refine lv_topi (fun x_13 ex_13 => ?_)
    obtain rfl : x_13 = 0 := ex_13.trans (by decide)
    refine lv_icmp_gt (tgt := 678) hx hb dL_law_23 (by decide) (fun c_14 => False.elim (by revert c_14; decide)) (fun _ => ?_)
    refine lv_aload_n hx hb dL_law_26 rfl (lv_at hl 3 rfl) ?_
    refine lv_iload_n hx hb dL_law_27 rfl (lv_at hl 0 rfl) ?_
    refine va_sld hx hb hX hbl hbA hS (vp_in_iff.mpr (by decide)) dL_law_28 ?_
    refine lv_bipush (v := 15) hx hb dL_law_29 (by decide +kernel) ?_
    refine lv_iand hx hb dL_law_31 ?_
    refine lv_topi (fun x_15 ex_15 => ?_)
    have hm15 : 0 ≤ x_15.toInt ∧ x_15.toInt < 16 := by rw [ex_15]; exact vp_in_iff.mp (pk_andIn _ (m := 15) 4 (by decide) (by decide))
    rcases (show x_15.toInt = 0 ∨ x_15.toInt = 1 ∨ x_15.toInt = 2 ∨ x_15.toInt = 3 ∨ x_15.toInt = 4 ∨ x_15.toInt = 5 ∨ x_15.toInt = 6 ∨ x_15.toInt = 7 ∨ x_15.toInt = 8 ∨ x_15.toInt = 9 ∨ x_15.toInt = 10 ∨ x_15.toInt = 11 ∨ x_15.toInt = 12 ∨ x_15.toInt = 13 ∨ 14 ≤ x_15.toInt by omega) with hk | hk | hk | hk | hk | hk | hk | hk | hk | hk | hk | hk | hk | hk | hk
    · refine lv_tableIn (tgt := 104) hx hb dL_law_32 (by omega) (by omega) (by rw [hk]; rfl) (by decide) ?_
      refine lv_aload_n hx hb dL_law_104 rfl (lv_at hl 2 rfl) ?_
      refine lv_aload_n hx hb dL_law_105 rfl (lv_at hl 3 rfl) ?_
      refine lv_iload_n hx hb dL_law_106 rfl (lv_at hl 0 rfl) ?_
      refine lv_iconst (v := 1) hx hb dL_law_107 (by decide) ?_
      refine lv_iadd hx hb dL_law_108 ?_
      refine lv_topi (fun x_16 ex_16 => ?_)
      obtain rfl : x_16 = 1 := ex_16.trans (by decide)
      refine va_sld hx hb hX hbl hbA hS (vp_in_iff.mpr (by decide)) dL_law_109 ?_
      refine lv_aload_n hx hb dL_law_110 rfl (lv_at hl 3 rfl) ?_
      refine lv_iload_n hx hb dL_law_111 rfl (lv_at hl 0 rfl) ?_
      refine lv_iconst (v := 2) hx hb dL_law_112 (by decide) ?_
      refine lv_iadd hx hb dL_law_113 ?_
      refine lv_topi (fun x_17 ex_17 => ?_)
      obtain rfl : x_17 = 2 := ex_17.trans (by decide)
      refine va_sld hx hb hX hbl hbA hS (vp_in_iff.mpr (by decide)) dL_law_114 ?_
      refine lv_aload_n hx hb dL_law_115 rfl (lv_at hl 3 rfl) ?_
      refine lv_iload_n hx hb dL_law_116 rfl (lv_at hl 0 rfl) ?_
      refine lv_iconst (v := 3) hx hb dL_law_117 (by decide) ?_
      refine lv_iadd hx hb dL_law_118 ?_
      refine lv_topi (fun x_18 ex_18 => ?_)
      obtain rfl : x_18 = 3 := ex_18.trans (by decide)
      refine va_sld hx hb hX hbl hbA hS (vp_in_iff.mpr (by decide)) dL_law_119 ?_
      have hPc := hP.sub (ws' := [(h0, .inr (3, [.ref h1, .ref h2, .ref h4])), (h1, .inl (kS, 4, .inr (.inr (.inr (.inr (fun _ => none))))))]) [0, 1] rfl
      have hKc := hK.sub (tys' := [(kS, .object "SignForms$Stream")]) [0] rfl
      have hDc := hD.sub (ws' := [(h0, .inr (3, [.ref h1, .ref h2, .ref h4])), (h1, .inl (kS, 4, .inr (.inr (.inr (.inr (fun _ => none))))))]) [0, 1] (by decide) rfl
      have hFc := va_free (wc := [(h0, .inr (3, [.ref h1, .ref h2, .ref h4])), (h1, .inl (kS, 4, .inr (.inr (.inr (.inr (fun _ => none))))))]) hD hS hA [0, 1] rfl
      refine va_calli (va_runV (As := [.int (xs (1 : Int32).toNatClampNeg), .int (xs (2 : Int32).toNatClampNeg), .int (xs (3 : Int32).toNatClampNeg)]) (rest := []) ⟨hx, hb, hml, hown, hts⟩ (kX4_open l dC dI h0 h1 h2 h4 kS H.size (xs (1 : Int32).toNatClampNeg) (xs (2 : Int32).toNatClampNeg) (xs (3 : Int32).toNatClampNeg)) (cwV 3 hts gL_law_X4_open rfl rfl rfl (by decide +kernel) ⟨Nat.le_of_ble_eq_true rfl, Nat.le_of_ble_eq_true rfl⟩) ⟨fun a U g mk q => by obtain ⟨q0, q1, qP, qK, qD, qn0⟩ := q; exact ⟨q0, q1, qP, va_K.moved (u := U) (U := U.calling g mk a) (Vm.Alike.refl U.vm) qK, qD, va_Nw.same (u := U) (U := U.calling g mk a) rfl rfl qn0⟩, va_recv hKc hPc (ci := 3) (q0 := 0) rfl rfl, fun U hU hW => ⟨rfl, by rw [hU], by rw [hU]; exact hPc, va_K.moved hW.alike hKc, hDc.weaken (fun _ _ _ _ => trivial), va_Nw.warmM hW hN3⟩⟩ rfl rfl hl.1 rfl (lv_room (Nat.le_of_ble_eq_true rfl)) dL_law_120 ⟨Nat.le_of_ble_eq_true rfl, Nat.le_of_ble_eq_true rfl⟩) hS (fun q _ h => hFc q h) hFc (fun r_19 u t H1 locs ht hvm hwr_19 hB hz1 hk1 hS => ?_)
      have hP1 : va_P (dC, dI) vwCl [] t.heap := fun k q h => by simp at h
      have hD1 : va_D (va_A [(h0, .inr (3, [.ref h1, .ref h2, .ref h4])), (h1, .inl (kS, 4, .inr (.inr (.inr (.inr (fun _ => none))))))] H.size) [] := ⟨fun i j p q h => by simp at h, fun k q h => by simp at h⟩
      rw [ht] at hP1
      obtain ⟨hP, hD⟩ := va_join (wr := [(h2, .inr (0, [.ref h3, .int 0])), (h3, .inl (kI, 6000, .inl (fun _ => 0))), (h4, .inr (1, [.int 0, .int 0, .int 0])), (g0, .inr (4, [.ref g1, .ref g2, .ref g3, .ref g4, .ref g5, .ref g6, .ref g7, .ref g8, .ref g9, .ref g10, .ref g11, .ref g12, .ref g13, .ref g14, .ref g15, .ref g16, .ref g17, .ref g18, .int 0, .ref g19, .int 0, .int 0, .int 0])), (g1, .inl (kG1, 4, .inl (fun _ => 0))), (g2, .inl (kG2, 4, .inl (fun _ => 0))), (g3, .inl (kG3, 4, .inl (fun _ => 0))), (g4, .inl (kG4, 4, .inl (fun _ => 0))), (g5, .inl (kG5, 4, .inl (fun _ => 0))), (g7, .inl (kG6, 4, .inl (fun _ => 0))), (g12, .inl (kG7, 4, .inl (fun _ => 0))), (g13, .inl (kG8, 4, .inl (fun _ => 0))), (g14, .inl (kG9, 4, .inl (fun _ => 0))), (g15, .inl (kG10, 4, .inl (fun _ => 0))), (g16, .inl (kG11, 4, .inl (fun _ => 0))), (g17, .inl (kG12, 4, .inl (fun _ => 0)))]) (w1 := []) hP hD [0, 1] [2, 3, 4, 5, 6, 7, 8, 9, 10, 11, 12, 13, 14, 15, 16, 17] rfl rfl (by decide) (by decide) hk1 hFc hP1 hD1
      generalize H1 = H at hP hS ⊢
      have hP : va_P (dC, dI) vwCl [(h2, .inr (0, [.ref h3, .int 0])), (h3, .inl (kI, 6000, .inl (fun _ => 0))), (h4, .inr (1, [.int 0, .int 0, .int 0])), (g0, .inr (4, [.ref g1, .ref g2, .ref g3, .ref g4, .ref g5, .ref g6, .ref g7, .ref g8, .ref g9, .ref g10, .ref g11, .ref g12, .ref g13, .ref g14, .ref g15, .ref g16, .ref g17, .ref g18, .int 0, .ref g19, .int 0, .int 0, .int 0])), (g1, .inl (kG1, 4, .inl (fun _ => 0))), (g2, .inl (kG2, 4, .inl (fun _ => 0))), (g3, .inl (kG3, 4, .inl (fun _ => 0))), (g4, .inl (kG4, 4, .inl (fun _ => 0))), (g5, .inl (kG5, 4, .inl (fun _ => 0))), (g7, .inl (kG6, 4, .inl (fun _ => 0))), (g12, .inl (kG7, 4, .inl (fun _ => 0))), (g13, .inl (kG8, 4, .inl (fun _ => 0))), (g14, .inl (kG9, 4, .inl (fun _ => 0))), (g15, .inl (kG10, 4, .inl (fun _ => 0))), (g16, .inl (kG11, 4, .inl (fun _ => 0))), (g17, .inl (kG12, 4, .inl (fun _ => 0)))] H := hP
      have hD : va_D (fun q : Nat => s.heap.size ≤ q) [(h2, .inr (0, [.ref h3, .int 0])), (h3, .inl (kI, 6000, .inl (fun _ => 0))), (h4, .inr (1, [.int 0, .int 0, .int 0])), (g0, .inr (4, [.ref g1, .ref g2, .ref g3, .ref g4, .ref g5, .ref g6, .ref g7, .ref g8, .ref g9, .ref g10, .ref g11, .ref g12, .ref g13, .ref g14, .ref g15, .ref g16, .ref g17, .ref g18, .int 0, .ref g19, .int 0, .int 0, .int 0])), (g1, .inl (kG1, 4, .inl (fun _ => 0))), (g2, .inl (kG2, 4, .inl (fun _ => 0))), (g3, .inl (kG3, 4, .inl (fun _ => 0))), (g4, .inl (kG4, 4, .inl (fun _ => 0))), (g5, .inl (kG5, 4, .inl (fun _ => 0))), (g7, .inl (kG6, 4, .inl (fun _ => 0))), (g12, .inl (kG7, 4, .inl (fun _ => 0))), (g13, .inl (kG8, 4, .inl (fun _ => 0))), (g14, .inl (kG9, 4, .inl (fun _ => 0))), (g15, .inl (kG10, 4, .inl (fun _ => 0))), (g16, .inl (kG11, 4, .inl (fun _ => 0))), (g17, .inl (kG12, 4, .inl (fun _ => 0)))] := hD
      refine W.widen (k := 32) (n := 68102) (by omega) (by omega) ?_
      refine lv_aload_n hx hb dL_law_123 rfl (lv_at hl 1 rfl) ?_
      refine lv_aload_n hx hb dL_law_124 rfl (lv_at hl 3 rfl) ?_
      refine lv_iload_n hx hb dL_law_125 rfl (lv_at hl 0 rfl) ?_
      refine lv_iconst (v := 1) hx hb dL_law_126 (by decide) ?_
      refine lv_iadd hx hb dL_law_127 ?_
      refine lv_topi (fun x_20 ex_20 => ?_)
      obtain rfl : x_20 = 1 := ex_20.trans (by decide)
      refine va_sld hx hb hX hbl hbA hS (vp_in_iff.mpr (by decide)) dL_law_128 ?_
      refine lv_aload_n hx hb dL_law_129 rfl (lv_at hl 3 rfl) ?_
      refine lv_iload_n hx hb dL_law_130 rfl (lv_at hl 0 rfl) ?_
      refine lv_iconst (v := 2) hx hb dL_law_131 (by decide) ?_
      refine lv_iadd hx hb dL_law_132 ?_
      refine lv_topi (fun x_21 ex_21 => ?_)
      obtain rfl : x_21 = 2 := ex_21.trans (by decide)
      refine va_sld hx hb hX hbl hbA hS (vp_in_iff.mpr (by decide)) dL_law_133 ?_
      refine lv_aload_n hx hb dL_law_134 rfl (lv_at hl 3 rfl) ?_
      refine lv_iload_n hx hb dL_law_135 rfl (lv_at hl 0 rfl) ?_
      refine lv_iconst (v := 3) hx hb dL_law_136 (by decide) ?_
      refine lv_iadd hx hb dL_law_137 ?_
      refine lv_topi (fun x_22 ex_22 => ?_)
      obtain rfl : x_22 = 3 := ex_22.trans (by decide)
      refine va_sld hx hb hX hbl hbA hS (vp_in_iff.mpr (by decide)) dL_law_138 ?_
      have hPc := hP.sub (ws' := [(g0, .inr (4, [.ref g1, .ref g2, .ref g3, .ref g4, .ref g5, .ref g6, .ref g7, .ref g8, .ref g9, .ref g10, .ref g11, .ref g12, .ref g13, .ref g14, .ref g15, .ref g16, .ref g17, .ref g18, .int 0, .ref g19, .int 0, .int 0, .int 0])), (g1, .inl (kG1, 4, .inl (fun _ => 0))), (g2, .inl (kG2, 4, .inl (fun _ => 0))), (g3, .inl (kG3, 4, .inl (fun _ => 0))), (g4, .inl (kG4, 4, .inl (fun _ => 0))), (g5, .inl (kG5, 4, .inl (fun _ => 0))), (g7, .inl (kG6, 4, .inl (fun _ => 0))), (g12, .inl (kG7, 4, .inl (fun _ => 0))), (g13, .inl (kG8, 4, .inl (fun _ => 0))), (g14, .inl (kG9, 4, .inl (fun _ => 0))), (g15, .inl (kG10, 4, .inl (fun _ => 0))), (g16, .inl (kG11, 4, .inl (fun _ => 0))), (g17, .inl (kG12, 4, .inl (fun _ => 0)))]) [3, 4, 5, 6, 7, 8, 9, 10, 11, 12, 13, 14, 15] rfl
      have hKc := hK.sub (tys' := [(kG1, .boolean), (kG2, .boolean), (kG3, .int), (kG4, .int), (kG5, .int), (kG6, .int), (kG7, .int), (kG8, .int), (kG9, .int), (kG10, .int), (kG11, .int), (kG12, .boolean)]) [2, 3, 4, 5, 6, 7, 8, 9, 10, 11, 12, 13] rfl
      have hDc := hD.sub (ws' := [(g0, .inr (4, [.ref g1, .ref g2, .ref g3, .ref g4, .ref g5, .ref g6, .ref g7, .ref g8, .ref g9, .ref g10, .ref g11, .ref g12, .ref g13, .ref g14, .ref g15, .ref g16, .ref g17, .ref g18, .int 0, .ref g19, .int 0, .int 0, .int 0])), (g1, .inl (kG1, 4, .inl (fun _ => 0))), (g2, .inl (kG2, 4, .inl (fun _ => 0))), (g3, .inl (kG3, 4, .inl (fun _ => 0))), (g4, .inl (kG4, 4, .inl (fun _ => 0))), (g5, .inl (kG5, 4, .inl (fun _ => 0))), (g7, .inl (kG6, 4, .inl (fun _ => 0))), (g12, .inl (kG7, 4, .inl (fun _ => 0))), (g13, .inl (kG8, 4, .inl (fun _ => 0))), (g14, .inl (kG9, 4, .inl (fun _ => 0))), (g15, .inl (kG10, 4, .inl (fun _ => 0))), (g16, .inl (kG11, 4, .inl (fun _ => 0))), (g17, .inl (kG12, 4, .inl (fun _ => 0)))]) [3, 4, 5, 6, 7, 8, 9, 10, 11, 12, 13, 14, 15] (by decide) rfl
      have hFc := va_free (wc := [(g0, .inr (4, [.ref g1, .ref g2, .ref g3, .ref g4, .ref g5, .ref g6, .ref g7, .ref g8, .ref g9, .ref g10, .ref g11, .ref g12, .ref g13, .ref g14, .ref g15, .ref g16, .ref g17, .ref g18, .int 0, .ref g19, .int 0, .int 0, .int 0])), (g1, .inl (kG1, 4, .inl (fun _ => 0))), (g2, .inl (kG2, 4, .inl (fun _ => 0))), (g3, .inl (kG3, 4, .inl (fun _ => 0))), (g4, .inl (kG4, 4, .inl (fun _ => 0))), (g5, .inl (kG5, 4, .inl (fun _ => 0))), (g7, .inl (kG6, 4, .inl (fun _ => 0))), (g12, .inl (kG7, 4, .inl (fun _ => 0))), (g13, .inl (kG8, 4, .inl (fun _ => 0))), (g14, .inl (kG9, 4, .inl (fun _ => 0))), (g15, .inl (kG10, 4, .inl (fun _ => 0))), (g16, .inl (kG11, 4, .inl (fun _ => 0))), (g17, .inl (kG12, 4, .inl (fun _ => 0)))]) hD hS hA [3, 4, 5, 6, 7, 8, 9, 10, 11, 12, 13, 14, 15] rfl
      refine va_calli (va_runV (As := [.int (xs (1 : Int32).toNatClampNeg), .int (xs (2 : Int32).toNatClampNeg), .int (xs (3 : Int32).toNatClampNeg)]) (rest := [.int r_19]) ⟨hx, hb, hml, hown, hts⟩ (kX5_open l dC dI g0 g1 g2 g3 g4 g5 g6 g7 g8 g9 g10 g11 g12 g13 g14 g15 g16 g17 g18 g19 kG1 kG2 kG3 kG4 kG5 kG6 kG7 kG8 kG9 kG10 kG11 kG12 H.size (xs (1 : Int32).toNatClampNeg) (xs (2 : Int32).toNatClampNeg) (xs (3 : Int32).toNatClampNeg)) (cwV 3 hts gL_law_X5_open rfl rfl rfl (by decide +kernel) ⟨Nat.le_of_ble_eq_true rfl, Nat.le_of_ble_eq_true rfl⟩) ⟨fun a U g mk q => by obtain ⟨q0, q1, qP, qK, qD⟩ := q; exact ⟨q0, q1, qP, va_K.moved (u := U) (U := U.calling g mk a) (Vm.Alike.refl U.vm) qK, qD⟩, va_recv hKc hPc (ci := 4) (q0 := 0) rfl rfl, fun U hU hW => ⟨rfl, by rw [hU], by rw [hU]; exact hPc, va_K.moved hW.alike hKc, hDc.weaken (fun _ _ _ _ => trivial)⟩⟩ rfl rfl hl.1 rfl (lv_room (Nat.le_of_ble_eq_true rfl)) dL_law_139 ⟨Nat.le_of_ble_eq_true rfl, Nat.le_of_ble_eq_true rfl⟩) hS (fun q _ h => hFc q h) hFc (fun r_23 u t H1 locs ht hvm hwr_23 hB hz1 hk1 hS => ?_)
      have hP1 : va_P (dC, dI) vwCl [] t.heap := fun k q h => by simp at h
      have hD1 : va_D (va_A [(g0, .inr (4, [.ref g1, .ref g2, .ref g3, .ref g4, .ref g5, .ref g6, .ref g7, .ref g8, .ref g9, .ref g10, .ref g11, .ref g12, .ref g13, .ref g14, .ref g15, .ref g16, .ref g17, .ref g18, .int 0, .ref g19, .int 0, .int 0, .int 0])), (g1, .inl (kG1, 4, .inl (fun _ => 0))), (g2, .inl (kG2, 4, .inl (fun _ => 0))), (g3, .inl (kG3, 4, .inl (fun _ => 0))), (g4, .inl (kG4, 4, .inl (fun _ => 0))), (g5, .inl (kG5, 4, .inl (fun _ => 0))), (g7, .inl (kG6, 4, .inl (fun _ => 0))), (g12, .inl (kG7, 4, .inl (fun _ => 0))), (g13, .inl (kG8, 4, .inl (fun _ => 0))), (g14, .inl (kG9, 4, .inl (fun _ => 0))), (g15, .inl (kG10, 4, .inl (fun _ => 0))), (g16, .inl (kG11, 4, .inl (fun _ => 0))), (g17, .inl (kG12, 4, .inl (fun _ => 0)))] H.size) [] := ⟨fun i j p q h => by simp at h, fun k q h => by simp at h⟩
      rw [ht] at hP1
      obtain ⟨hP, hD⟩ := va_join (wr := [(h2, .inr (0, [.ref h3, .int 0])), (h3, .inl (kI, 6000, .inl (fun _ => 0))), (h4, .inr (1, [.int 0, .int 0, .int 0]))]) (w1 := []) hP hD [3, 4, 5, 6, 7, 8, 9, 10, 11, 12, 13, 14, 15] [0, 1, 2] rfl rfl (by decide) (by decide) hk1 hFc hP1 hD1
      generalize H1 = H at hP hS ⊢
      have hP : va_P (dC, dI) vwCl [(h2, .inr (0, [.ref h3, .int 0])), (h3, .inl (kI, 6000, .inl (fun _ => 0))), (h4, .inr (1, [.int 0, .int 0, .int 0]))] H := hP
      have hD : va_D (fun q : Nat => s.heap.size ≤ q) [(h2, .inr (0, [.ref h3, .int 0])), (h3, .inl (kI, 6000, .inl (fun _ => 0))), (h4, .inr (1, [.int 0, .int 0, .int 0]))] := hD
      refine lv_icmp_eq (tgt := 672) hx hb dL_law_142 (by decide) (fun _ => ?_) (fun c_24 => False.elim (by first | exact c_24 (hwr_19.trans hwr_23.symm) | exact c_24 (zz_same hwr_19 hwr_23)))
      refine lv_iinc (v := 5) (lv' := [(3, .int 5), (2, .ref g0), (1, .ref h0), (0, .ref b)]) hx hb dL_law_672 hl (k := 0) rfl (by decide) (by decide) rfl (fun ls hl => ?_)
      refine lv_goto (tgt := 18) hx hb dL_law_675 (by decide) ?_
      refine lv_iload_n hx hb dL_law_18 rfl (lv_at hl 0 rfl) ?_
      refine lv_aload_n hx hb dL_law_19 rfl (lv_at hl 3 rfl) ?_
      refine va_slen hx hb hX hbl hbA hS dL_law_20 ?_
      refine W.eq (g2 := F0 m 21 ls [.int 5, .int 5]) rfl ?_
      refine lv_iconst (v := 5) hx hb dL_law_21 (by decide) ?_
      refine lv_isub hx hb dL_law_22 ?_
      refine lv_topi (fun x_26 ex_26 => ?_)
      obtain rfl : x_26 = 0 := ex_26.trans (by decide)
      refine lv_icmp_gt (tgt := 678) hx hb dL_law_23 (by decide) (fun _ => ?_) (fun c_27 => False.elim (by revert c_27; decide))
      refine lv_iconst (v := 1) hx hb dL_law_678 (by decide) ?_
      refine va_forget (fun q hq => hS.2.2 q hq) ?_
      refine W.widen (k := 600000) (n := 7302250) (by omega) (by omega) ?_
      exact lw_ret hx hb hr hlocks dL_law_679
    · refine lv_tableIn (tgt := 147) hx hb dL_law_32 (by omega) (by omega) (by rw [hk]; rfl) (by decide) ?_
      refine lv_aload_n hx hb dL_law_147 rfl (lv_at hl 2 rfl) ?_
      refine lv_aload_n hx hb dL_law_148 rfl (lv_at hl 3 rfl) ?_
      refine lv_iload_n hx hb dL_law_149 rfl (lv_at hl 0 rfl) ?_
      refine lv_iconst (v := 1) hx hb dL_law_150 (by decide) ?_
      refine lv_iadd hx hb dL_law_151 ?_
      refine lv_topi (fun x_28 ex_28 => ?_)
      obtain rfl : x_28 = 1 := ex_28.trans (by decide)
      refine va_sld hx hb hX hbl hbA hS (vp_in_iff.mpr (by decide)) dL_law_152 ?_
      refine lv_aload_n hx hb dL_law_153 rfl (lv_at hl 3 rfl) ?_
      refine lv_iload_n hx hb dL_law_154 rfl (lv_at hl 0 rfl) ?_
      refine lv_iconst (v := 2) hx hb dL_law_155 (by decide) ?_
      refine lv_iadd hx hb dL_law_156 ?_
      refine lv_topi (fun x_29 ex_29 => ?_)
      obtain rfl : x_29 = 2 := ex_29.trans (by decide)
      refine va_sld hx hb hX hbl hbA hS (vp_in_iff.mpr (by decide)) dL_law_157 ?_
      refine lv_i2l hx hb dL_law_158 rfl ?_
      refine lv_bipush (v := 32) hx hb dL_law_159 (by decide +kernel) ?_
      refine lv_lshl hx hb dL_law_161 rfl ?_
      refine lv_topl (fun w_30 _ => ?_)
      refine lv_aload_n hx hb dL_law_162 rfl (lv_at hl 3 rfl) ?_
      refine lv_iload_n hx hb dL_law_163 rfl (lv_at hl 0 rfl) ?_
      refine lv_iconst (v := 3) hx hb dL_law_164 (by decide) ?_
      refine lv_iadd hx hb dL_law_165 ?_
      refine lv_topi (fun x_31 ex_31 => ?_)
      obtain rfl : x_31 = 3 := ex_31.trans (by decide)
      refine va_sld hx hb hX hbl hbA hS (vp_in_iff.mpr (by decide)) dL_law_166 ?_
      refine lv_i2l hx hb dL_law_167 rfl ?_
      refine lv_ldc2 (v := 4294967295) hx hb hown (hts (.constantLong RL 18 4294967295) (by decide +kernel)) dL_law_168 ?_
      refine lv_land hx hb dL_law_171 ?_
      refine lv_topl (fun w_32 _ => ?_)
      refine lv_lor hx hb dL_law_172 ?_
      refine lv_topl (fun w_33 _ => ?_)
      refine lv_aload_n hx hb dL_law_173 rfl (lv_at hl 3 rfl) ?_
      refine lv_iload_n hx hb dL_law_174 rfl (lv_at hl 0 rfl) ?_
      refine lv_iconst (v := 4) hx hb dL_law_175 (by decide) ?_
      refine lv_iadd hx hb dL_law_176 ?_
      refine lv_topi (fun x_34 ex_34 => ?_)
      obtain rfl : x_34 = 4 := ex_34.trans (by decide)
      refine va_sld hx hb hX hbl hbA hS (vp_in_iff.mpr (by decide)) dL_law_177 ?_
      have hPc := hP.sub (ws' := [(h0, .inr (3, [.ref h1, .ref h2, .ref h4])), (h1, .inl (kS, 4, .inr (.inr (.inr (.inr (fun _ => none))))))]) [0, 1] rfl
      have hKc := hK.sub (tys' := [(kS, .object "SignForms$Stream")]) [0] rfl
      refine vp_callSi (W.runV (As := [.int (xs (1 : Int32).toNatClampNeg), .long w_33, .int (xs (4 : Int32).toNatClampNeg)]) (rest := []) ⟨hx, hb, hml, hown, hts⟩ (kX4_put l dC dI h0 h1 h2 h4 kS (xs (1 : Int32).toNatClampNeg) w_33 (xs (4 : Int32).toNatClampNeg)) (cwV 3 hts gL_law_X4_put rfl rfl rfl (by decide +kernel) ⟨Nat.le_of_ble_eq_true rfl, Nat.le_of_ble_eq_true rfl⟩) ⟨fun a U g mk q => by obtain ⟨q0, qP, qK⟩ := q; exact ⟨q0, qP, va_K.moved (u := U) (U := U.calling g mk a) (Vm.Alike.refl U.vm) qK⟩, va_recv hKc hPc (ci := 3) (q0 := 0) rfl rfl, fun U hU hW => ⟨rfl, by rw [hU]; exact hPc, va_K.moved hW.alike hKc⟩⟩ rfl rfl hl.1 rfl (lv_room (Nat.le_of_ble_eq_true rfl)) dL_law_178 ⟨Nat.le_of_ble_eq_true rfl, Nat.le_of_ble_eq_true rfl⟩) (fun r_35 hwr_35 => ?_)
      refine lv_aload_n hx hb dL_law_181 rfl (lv_at hl 1 rfl) ?_
      refine lv_aload_n hx hb dL_law_182 rfl (lv_at hl 3 rfl) ?_
      refine lv_iload_n hx hb dL_law_183 rfl (lv_at hl 0 rfl) ?_
      refine lv_iconst (v := 1) hx hb dL_law_184 (by decide) ?_
      refine lv_iadd hx hb dL_law_185 ?_
      refine lv_topi (fun x_36 ex_36 => ?_)
      obtain rfl : x_36 = 1 := ex_36.trans (by decide)
      refine va_sld hx hb hX hbl hbA hS (vp_in_iff.mpr (by decide)) dL_law_186 ?_
      refine lv_aload_n hx hb dL_law_187 rfl (lv_at hl 3 rfl) ?_
      refine lv_iload_n hx hb dL_law_188 rfl (lv_at hl 0 rfl) ?_
      refine lv_iconst (v := 2) hx hb dL_law_189 (by decide) ?_
      refine lv_iadd hx hb dL_law_190 ?_
      refine lv_topi (fun x_37 ex_37 => ?_)
      obtain rfl : x_37 = 2 := ex_37.trans (by decide)
      refine va_sld hx hb hX hbl hbA hS (vp_in_iff.mpr (by decide)) dL_law_191 ?_
      refine lv_i2l hx hb dL_law_192 rfl ?_
      refine lv_bipush (v := 32) hx hb dL_law_193 (by decide +kernel) ?_
      refine lv_lshl hx hb dL_law_195 rfl ?_
      refine lv_topl (fun w_38 _ => ?_)
      refine lv_aload_n hx hb dL_law_196 rfl (lv_at hl 3 rfl) ?_
      refine lv_iload_n hx hb dL_law_197 rfl (lv_at hl 0 rfl) ?_
      refine lv_iconst (v := 3) hx hb dL_law_198 (by decide) ?_
      refine lv_iadd hx hb dL_law_199 ?_
      refine lv_topi (fun x_39 ex_39 => ?_)
      obtain rfl : x_39 = 3 := ex_39.trans (by decide)
      refine va_sld hx hb hX hbl hbA hS (vp_in_iff.mpr (by decide)) dL_law_200 ?_
      refine lv_i2l hx hb dL_law_201 rfl ?_
      refine lv_ldc2 (v := 4294967295) hx hb hown (hts (.constantLong RL 18 4294967295) (by decide +kernel)) dL_law_202 ?_
      refine lv_land hx hb dL_law_205 ?_
      refine lv_topl (fun w_40 _ => ?_)
      refine lv_lor hx hb dL_law_206 ?_
      refine lv_topl (fun w_41 _ => ?_)
      refine lv_aload_n hx hb dL_law_207 rfl (lv_at hl 3 rfl) ?_
      refine lv_iload_n hx hb dL_law_208 rfl (lv_at hl 0 rfl) ?_
      refine lv_iconst (v := 4) hx hb dL_law_209 (by decide) ?_
      refine lv_iadd hx hb dL_law_210 ?_
      refine lv_topi (fun x_42 ex_42 => ?_)
      obtain rfl : x_42 = 4 := ex_42.trans (by decide)
      refine va_sld hx hb hX hbl hbA hS (vp_in_iff.mpr (by decide)) dL_law_211 ?_
      have hPc := hP.sub (ws' := [(g0, .inr (4, [.ref g1, .ref g2, .ref g3, .ref g4, .ref g5, .ref g6, .ref g7, .ref g8, .ref g9, .ref g10, .ref g11, .ref g12, .ref g13, .ref g14, .ref g15, .ref g16, .ref g17, .ref g18, .int 0, .ref g19, .int 0, .int 0, .int 0])), (g1, .inl (kG1, 4, .inl (fun _ => 0)))]) [5, 6] rfl
      have hKc := hK.sub (tys' := [(kG1, .boolean)]) [2] rfl
      refine vp_callSi (W.runV (As := [.int (xs (1 : Int32).toNatClampNeg), .long w_41, .int (xs (4 : Int32).toNatClampNeg)]) (rest := [.int r_35]) ⟨hx, hb, hml, hown, hts⟩ (kX5_put l dC dI g0 g1 g2 g3 g4 g5 g6 g7 g8 g9 g10 g11 g12 g13 g14 g15 g16 g17 g18 g19 kG1 (xs (1 : Int32).toNatClampNeg) w_41 (xs (4 : Int32).toNatClampNeg)) (cwV 3 hts gL_law_X5_put rfl rfl rfl (by decide +kernel) ⟨Nat.le_of_ble_eq_true rfl, Nat.le_of_ble_eq_true rfl⟩) ⟨fun a U g mk q => by obtain ⟨q0, qP, qK⟩ := q; exact ⟨q0, qP, va_K.moved (u := U) (U := U.calling g mk a) (Vm.Alike.refl U.vm) qK⟩, va_recv hKc hPc (ci := 4) (q0 := 0) rfl rfl, fun U hU hW => ⟨rfl, by rw [hU]; exact hPc, va_K.moved hW.alike hKc⟩⟩ rfl rfl hl.1 rfl (lv_room (Nat.le_of_ble_eq_true rfl)) dL_law_212 ⟨Nat.le_of_ble_eq_true rfl, Nat.le_of_ble_eq_true rfl⟩) (fun r_43 hwr_43 => ?_)
      refine lv_icmp_eq (tgt := 672) hx hb dL_law_215 (by decide) (fun _ => ?_) (fun c_44 => False.elim (by first | exact c_44 (hwr_35.trans hwr_43.symm) | exact c_44 (zz_same hwr_35 hwr_43)))
      refine lv_iinc (v := 5) (lv' := [(3, .int 5), (2, .ref g0), (1, .ref h0), (0, .ref b)]) hx hb dL_law_672 hl (k := 0) rfl (by decide) (by decide) rfl (fun ls hl => ?_)
      refine lv_goto (tgt := 18) hx hb dL_law_675 (by decide) ?_
      refine lv_iload_n hx hb dL_law_18 rfl (lv_at hl 0 rfl) ?_
      refine lv_aload_n hx hb dL_law_19 rfl (lv_at hl 3 rfl) ?_
      refine va_slen hx hb hX hbl hbA hS dL_law_20 ?_
      refine W.eq (g2 := F0 m 21 ls [.int 5, .int 5]) rfl ?_
      refine lv_iconst (v := 5) hx hb dL_law_21 (by decide) ?_
      refine lv_isub hx hb dL_law_22 ?_
      refine lv_topi (fun x_46 ex_46 => ?_)
      obtain rfl : x_46 = 0 := ex_46.trans (by decide)
      refine lv_icmp_gt (tgt := 678) hx hb dL_law_23 (by decide) (fun _ => ?_) (fun c_47 => False.elim (by revert c_47; decide))
      refine lv_iconst (v := 1) hx hb dL_law_678 (by decide) ?_
      refine va_forget (fun q hq => hS.2.2 q hq) ?_
      refine W.widen (k := 600000) (n := 7302250) (by omega) (by omega) ?_
      exact lw_ret hx hb hr hlocks dL_law_679
    · refine lv_tableIn (tgt := 220) hx hb dL_law_32 (by omega) (by omega) (by rw [hk]; rfl) (by decide) ?_
      refine lv_aload_n hx hb dL_law_220 rfl (lv_at hl 2 rfl) ?_
      refine lv_aload_n hx hb dL_law_221 rfl (lv_at hl 3 rfl) ?_
      refine lv_iload_n hx hb dL_law_222 rfl (lv_at hl 0 rfl) ?_
      refine lv_iconst (v := 1) hx hb dL_law_223 (by decide) ?_
      refine lv_iadd hx hb dL_law_224 ?_
      refine lv_topi (fun x_48 ex_48 => ?_)
      obtain rfl : x_48 = 1 := ex_48.trans (by decide)
      refine va_sld hx hb hX hbl hbA hS (vp_in_iff.mpr (by decide)) dL_law_225 ?_
      refine lv_aload_n hx hb dL_law_226 rfl (lv_at hl 3 rfl) ?_
      refine lv_iload_n hx hb dL_law_227 rfl (lv_at hl 0 rfl) ?_
      refine lv_iconst (v := 2) hx hb dL_law_228 (by decide) ?_
      refine lv_iadd hx hb dL_law_229 ?_
      refine lv_topi (fun x_49 ex_49 => ?_)
      obtain rfl : x_49 = 2 := ex_49.trans (by decide)
      refine va_sld hx hb hX hbl hbA hS (vp_in_iff.mpr (by decide)) dL_law_230 ?_
      refine lv_aload_n hx hb dL_law_231 rfl (lv_at hl 3 rfl) ?_
      refine lv_iload_n hx hb dL_law_232 rfl (lv_at hl 0 rfl) ?_
      refine lv_iconst (v := 3) hx hb dL_law_233 (by decide) ?_
      refine lv_iadd hx hb dL_law_234 ?_
      refine lv_topi (fun x_50 ex_50 => ?_)
      obtain rfl : x_50 = 3 := ex_50.trans (by decide)
      refine va_sld hx hb hX hbl hbA hS (vp_in_iff.mpr (by decide)) dL_law_235 ?_
      have hPc := hP.sub (ws' := [(h0, .inr (3, [.ref h1, .ref h2, .ref h4])), (h1, .inl (kS, 4, .inr (.inr (.inr (.inr (fun _ => none)))))), (h2, .inr (0, [.ref h3, .int 0]))]) [0, 1, 2] rfl
      have hKc := hK.sub (tys' := [(kS, .object "SignForms$Stream")]) [0] rfl
      refine vp_callSi (W.runV (As := [.int (xs (1 : Int32).toNatClampNeg), .int (xs (2 : Int32).toNatClampNeg), .int (xs (3 : Int32).toNatClampNeg)]) (rest := []) ⟨hx, hb, hml, hown, hts⟩ (kX4_pour l dC dI h0 h1 h2 h3 h4 kS (xs (1 : Int32).toNatClampNeg) (xs (2 : Int32).toNatClampNeg) (xs (3 : Int32).toNatClampNeg)) (cwV 3 hts gL_law_X4_pour rfl rfl rfl (by decide +kernel) ⟨Nat.le_of_ble_eq_true rfl, Nat.le_of_ble_eq_true rfl⟩) ⟨fun a U g mk q => by obtain ⟨q0, qP, qK⟩ := q; exact ⟨q0, qP, va_K.moved (u := U) (U := U.calling g mk a) (Vm.Alike.refl U.vm) qK⟩, va_recv hKc hPc (ci := 3) (q0 := 0) rfl rfl, fun U hU hW => ⟨rfl, by rw [hU]; exact hPc, va_K.moved hW.alike hKc⟩⟩ rfl rfl hl.1 rfl (lv_room (Nat.le_of_ble_eq_true rfl)) dL_law_236 ⟨Nat.le_of_ble_eq_true rfl, Nat.le_of_ble_eq_true rfl⟩) (fun r_51 hwr_51 => ?_)
      refine lv_aload_n hx hb dL_law_239 rfl (lv_at hl 1 rfl) ?_
      refine lv_aload_n hx hb dL_law_240 rfl (lv_at hl 3 rfl) ?_
      refine lv_iload_n hx hb dL_law_241 rfl (lv_at hl 0 rfl) ?_
      refine lv_iconst (v := 1) hx hb dL_law_242 (by decide) ?_
      refine lv_iadd hx hb dL_law_243 ?_
      refine lv_topi (fun x_52 ex_52 => ?_)
      obtain rfl : x_52 = 1 := ex_52.trans (by decide)
      refine va_sld hx hb hX hbl hbA hS (vp_in_iff.mpr (by decide)) dL_law_244 ?_
      refine lv_aload_n hx hb dL_law_245 rfl (lv_at hl 3 rfl) ?_
      refine lv_iload_n hx hb dL_law_246 rfl (lv_at hl 0 rfl) ?_
      refine lv_iconst (v := 2) hx hb dL_law_247 (by decide) ?_
      refine lv_iadd hx hb dL_law_248 ?_
      refine lv_topi (fun x_53 ex_53 => ?_)
      obtain rfl : x_53 = 2 := ex_53.trans (by decide)
      refine va_sld hx hb hX hbl hbA hS (vp_in_iff.mpr (by decide)) dL_law_249 ?_
      refine lv_aload_n hx hb dL_law_250 rfl (lv_at hl 3 rfl) ?_
      refine lv_iload_n hx hb dL_law_251 rfl (lv_at hl 0 rfl) ?_
      refine lv_iconst (v := 3) hx hb dL_law_252 (by decide) ?_
      refine lv_iadd hx hb dL_law_253 ?_
      refine lv_topi (fun x_54 ex_54 => ?_)
      obtain rfl : x_54 = 3 := ex_54.trans (by decide)
      refine va_sld hx hb hX hbl hbA hS (vp_in_iff.mpr (by decide)) dL_law_254 ?_
      have hPc := hP.sub (ws' := [(g0, .inr (4, [.ref g1, .ref g2, .ref g3, .ref g4, .ref g5, .ref g6, .ref g7, .ref g8, .ref g9, .ref g10, .ref g11, .ref g12, .ref g13, .ref g14, .ref g15, .ref g16, .ref g17, .ref g18, .int 0, .ref g19, .int 0, .int 0, .int 0])), (g1, .inl (kG1, 4, .inl (fun _ => 0)))]) [5, 6] rfl
      have hKc := hK.sub (tys' := [(kG1, .boolean)]) [2] rfl
      refine vp_callSi (W.runV (As := [.int (xs (1 : Int32).toNatClampNeg), .int (xs (2 : Int32).toNatClampNeg), .int (xs (3 : Int32).toNatClampNeg)]) (rest := [.int r_51]) ⟨hx, hb, hml, hown, hts⟩ (kX5_pour l dC dI g0 g1 g2 g3 g4 g5 g6 g7 g8 g9 g10 g11 g12 g13 g14 g15 g16 g17 g18 g19 kG1 (xs (1 : Int32).toNatClampNeg) (xs (2 : Int32).toNatClampNeg) (xs (3 : Int32).toNatClampNeg)) (cwV 3 hts gL_law_X5_pour rfl rfl rfl (by decide +kernel) ⟨Nat.le_of_ble_eq_true rfl, Nat.le_of_ble_eq_true rfl⟩) ⟨fun a U g mk q => by obtain ⟨q0, qP, qK⟩ := q; exact ⟨q0, qP, va_K.moved (u := U) (U := U.calling g mk a) (Vm.Alike.refl U.vm) qK⟩, va_recv hKc hPc (ci := 4) (q0 := 0) rfl rfl, fun U hU hW => ⟨rfl, by rw [hU]; exact hPc, va_K.moved hW.alike hKc⟩⟩ rfl rfl hl.1 rfl (lv_room (Nat.le_of_ble_eq_true rfl)) dL_law_255 ⟨Nat.le_of_ble_eq_true rfl, Nat.le_of_ble_eq_true rfl⟩) (fun r_55 hwr_55 => ?_)
      refine lv_icmp_eq (tgt := 672) hx hb dL_law_258 (by decide) (fun _ => ?_) (fun c_56 => False.elim (by first | exact c_56 (hwr_51.trans hwr_55.symm) | exact c_56 (zz_same hwr_51 hwr_55)))
      refine lv_iinc (v := 5) (lv' := [(3, .int 5), (2, .ref g0), (1, .ref h0), (0, .ref b)]) hx hb dL_law_672 hl (k := 0) rfl (by decide) (by decide) rfl (fun ls hl => ?_)
      refine lv_goto (tgt := 18) hx hb dL_law_675 (by decide) ?_
      refine lv_iload_n hx hb dL_law_18 rfl (lv_at hl 0 rfl) ?_
      refine lv_aload_n hx hb dL_law_19 rfl (lv_at hl 3 rfl) ?_
      refine va_slen hx hb hX hbl hbA hS dL_law_20 ?_
      refine W.eq (g2 := F0 m 21 ls [.int 5, .int 5]) rfl ?_
      refine lv_iconst (v := 5) hx hb dL_law_21 (by decide) ?_
      refine lv_isub hx hb dL_law_22 ?_
      refine lv_topi (fun x_58 ex_58 => ?_)
      obtain rfl : x_58 = 0 := ex_58.trans (by decide)
      refine lv_icmp_gt (tgt := 678) hx hb dL_law_23 (by decide) (fun _ => ?_) (fun c_59 => False.elim (by revert c_59; decide))
      refine lv_iconst (v := 1) hx hb dL_law_678 (by decide) ?_
      refine va_forget (fun q hq => hS.2.2 q hq) ?_
      refine W.widen (k := 600000) (n := 7302250) (by omega) (by omega) ?_
      exact lw_ret hx hb hr hlocks dL_law_679
    · refine lv_tableIn (tgt := 263) hx hb dL_law_32 (by omega) (by omega) (by rw [hk]; rfl) (by decide) ?_
      refine lv_aload_n hx hb dL_law_263 rfl (lv_at hl 2 rfl) ?_
      refine lv_aload_n hx hb dL_law_264 rfl (lv_at hl 3 rfl) ?_
      refine lv_iload_n hx hb dL_law_265 rfl (lv_at hl 0 rfl) ?_
      refine lv_iconst (v := 1) hx hb dL_law_266 (by decide) ?_
      refine lv_iadd hx hb dL_law_267 ?_
      refine lv_topi (fun x_60 ex_60 => ?_)
      obtain rfl : x_60 = 1 := ex_60.trans (by decide)
      refine va_sld hx hb hX hbl hbA hS (vp_in_iff.mpr (by decide)) dL_law_268 ?_
      have hPc := hP.sub (ws' := [(h0, .inr (3, [.ref h1, .ref h2, .ref h4])), (h1, .inl (kS, 4, .inr (.inr (.inr (.inr (fun _ => none))))))]) [0, 1] rfl
      have hKc := hK.sub (tys' := [(kS, .object "SignForms$Stream")]) [0] rfl
      refine vp_callSi (W.runV (As := [.int (xs (1 : Int32).toNatClampNeg)]) (rest := []) ⟨hx, hb, hml, hown, hts⟩ (kX4_end l dC dI h0 h1 h2 h4 kS (xs (1 : Int32).toNatClampNeg)) (cwV 1 hts gL_law_X4_end rfl rfl rfl (by decide +kernel) ⟨Nat.le_of_ble_eq_true rfl, Nat.le_of_ble_eq_true rfl⟩) ⟨fun a U g mk q => by obtain ⟨q0, qP, qK⟩ := q; exact ⟨q0, qP, va_K.moved (u := U) (U := U.calling g mk a) (Vm.Alike.refl U.vm) qK⟩, va_recv hKc hPc (ci := 3) (q0 := 0) rfl rfl, fun U hU hW => ⟨rfl, by rw [hU]; exact hPc, va_K.moved hW.alike hKc⟩⟩ rfl rfl hl.1 rfl (lv_room (Nat.le_of_ble_eq_true rfl)) dL_law_269 ⟨Nat.le_of_ble_eq_true rfl, Nat.le_of_ble_eq_true rfl⟩) (fun r_61 hwr_61 => ?_)
      refine lv_aload_n hx hb dL_law_272 rfl (lv_at hl 1 rfl) ?_
      refine lv_aload_n hx hb dL_law_273 rfl (lv_at hl 3 rfl) ?_
      refine lv_iload_n hx hb dL_law_274 rfl (lv_at hl 0 rfl) ?_
      refine lv_iconst (v := 1) hx hb dL_law_275 (by decide) ?_
      refine lv_iadd hx hb dL_law_276 ?_
      refine lv_topi (fun x_62 ex_62 => ?_)
      obtain rfl : x_62 = 1 := ex_62.trans (by decide)
      refine va_sld hx hb hX hbl hbA hS (vp_in_iff.mpr (by decide)) dL_law_277 ?_
      have hPc := hP.sub (ws' := [(g0, .inr (4, [.ref g1, .ref g2, .ref g3, .ref g4, .ref g5, .ref g6, .ref g7, .ref g8, .ref g9, .ref g10, .ref g11, .ref g12, .ref g13, .ref g14, .ref g15, .ref g16, .ref g17, .ref g18, .int 0, .ref g19, .int 0, .int 0, .int 0])), (g1, .inl (kG1, 4, .inl (fun _ => 0)))]) [5, 6] rfl
      have hKc := hK.sub (tys' := [(kG1, .boolean)]) [2] rfl
      refine vp_callSi (W.runV (As := [.int (xs (1 : Int32).toNatClampNeg)]) (rest := [.int r_61]) ⟨hx, hb, hml, hown, hts⟩ (kX5_end l dC dI g0 g1 g2 g3 g4 g5 g6 g7 g8 g9 g10 g11 g12 g13 g14 g15 g16 g17 g18 g19 kG1 (xs (1 : Int32).toNatClampNeg)) (cwV 1 hts gL_law_X5_end rfl rfl rfl (by decide +kernel) ⟨Nat.le_of_ble_eq_true rfl, Nat.le_of_ble_eq_true rfl⟩) ⟨fun a U g mk q => by obtain ⟨q0, qP, qK⟩ := q; exact ⟨q0, qP, va_K.moved (u := U) (U := U.calling g mk a) (Vm.Alike.refl U.vm) qK⟩, va_recv hKc hPc (ci := 4) (q0 := 0) rfl rfl, fun U hU hW => ⟨rfl, by rw [hU]; exact hPc, va_K.moved hW.alike hKc⟩⟩ rfl rfl hl.1 rfl (lv_room (Nat.le_of_ble_eq_true rfl)) dL_law_278 ⟨Nat.le_of_ble_eq_true rfl, Nat.le_of_ble_eq_true rfl⟩) (fun r_63 hwr_63 => ?_)
      refine lv_icmp_eq (tgt := 672) hx hb dL_law_281 (by decide) (fun _ => ?_) (fun c_64 => False.elim (by first | exact c_64 (hwr_61.trans hwr_63.symm) | exact c_64 (zz_same hwr_61 hwr_63)))
      refine lv_iinc (v := 5) (lv' := [(3, .int 5), (2, .ref g0), (1, .ref h0), (0, .ref b)]) hx hb dL_law_672 hl (k := 0) rfl (by decide) (by decide) rfl (fun ls hl => ?_)
      refine lv_goto (tgt := 18) hx hb dL_law_675 (by decide) ?_
      refine lv_iload_n hx hb dL_law_18 rfl (lv_at hl 0 rfl) ?_
      refine lv_aload_n hx hb dL_law_19 rfl (lv_at hl 3 rfl) ?_
      refine va_slen hx hb hX hbl hbA hS dL_law_20 ?_
      refine W.eq (g2 := F0 m 21 ls [.int 5, .int 5]) rfl ?_
      refine lv_iconst (v := 5) hx hb dL_law_21 (by decide) ?_
      refine lv_isub hx hb dL_law_22 ?_
      refine lv_topi (fun x_66 ex_66 => ?_)
      obtain rfl : x_66 = 0 := ex_66.trans (by decide)
      refine lv_icmp_gt (tgt := 678) hx hb dL_law_23 (by decide) (fun _ => ?_) (fun c_67 => False.elim (by revert c_67; decide))
      refine lv_iconst (v := 1) hx hb dL_law_678 (by decide) ?_
      refine va_forget (fun q hq => hS.2.2 q hq) ?_
      refine W.widen (k := 600000) (n := 7302250) (by omega) (by omega) ?_
      exact lw_ret hx hb hr hlocks dL_law_679
    · refine lv_tableIn (tgt := 286) hx hb dL_law_32 (by omega) (by omega) (by rw [hk]; rfl) (by decide) ?_
      refine lv_aload_n hx hb dL_law_286 rfl (lv_at hl 2 rfl) ?_
      refine lv_aload_n hx hb dL_law_287 rfl (lv_at hl 3 rfl) ?_
      refine lv_iload_n hx hb dL_law_288 rfl (lv_at hl 0 rfl) ?_
      refine lv_iconst (v := 1) hx hb dL_law_289 (by decide) ?_
      refine lv_iadd hx hb dL_law_290 ?_
      refine lv_topi (fun x_68 ex_68 => ?_)
      obtain rfl : x_68 = 1 := ex_68.trans (by decide)
      refine va_sld hx hb hX hbl hbA hS (vp_in_iff.mpr (by decide)) dL_law_291 ?_
      refine lv_aload_n hx hb dL_law_292 rfl (lv_at hl 3 rfl) ?_
      refine lv_iload_n hx hb dL_law_293 rfl (lv_at hl 0 rfl) ?_
      refine lv_iconst (v := 2) hx hb dL_law_294 (by decide) ?_
      refine lv_iadd hx hb dL_law_295 ?_
      refine lv_topi (fun x_69 ex_69 => ?_)
      obtain rfl : x_69 = 2 := ex_69.trans (by decide)
      refine va_sld hx hb hX hbl hbA hS (vp_in_iff.mpr (by decide)) dL_law_296 ?_
      have hPc := hP.sub (ws' := [(h0, .inr (3, [.ref h1, .ref h2, .ref h4])), (h1, .inl (kS, 4, .inr (.inr (.inr (.inr (fun _ => none))))))]) [0, 1] rfl
      have hKc := hK.sub (tys' := [(kS, .object "SignForms$Stream")]) [0] rfl
      refine vp_callSi (W.runV (As := [.int (xs (1 : Int32).toNatClampNeg), .int (xs (2 : Int32).toNatClampNeg)]) (rest := []) ⟨hx, hb, hml, hown, hts⟩ (kX4_about l dC dI h0 h1 h2 h4 kS (xs (1 : Int32).toNatClampNeg) (xs (2 : Int32).toNatClampNeg)) (cwV 2 hts gL_law_X4_about rfl rfl rfl (by decide +kernel) ⟨Nat.le_of_ble_eq_true rfl, Nat.le_of_ble_eq_true rfl⟩) ⟨fun a U g mk q => by obtain ⟨q0, qP, qK⟩ := q; exact ⟨q0, qP, va_K.moved (u := U) (U := U.calling g mk a) (Vm.Alike.refl U.vm) qK⟩, va_recv hKc hPc (ci := 3) (q0 := 0) rfl rfl, fun U hU hW => ⟨rfl, by rw [hU]; exact hPc, va_K.moved hW.alike hKc⟩⟩ rfl rfl hl.1 rfl (lv_room (Nat.le_of_ble_eq_true rfl)) dL_law_297 ⟨Nat.le_of_ble_eq_true rfl, Nat.le_of_ble_eq_true rfl⟩) (fun r_70 hwr_70 => ?_)
      refine lv_aload_n hx hb dL_law_300 rfl (lv_at hl 1 rfl) ?_
      refine lv_aload_n hx hb dL_law_301 rfl (lv_at hl 3 rfl) ?_
      refine lv_iload_n hx hb dL_law_302 rfl (lv_at hl 0 rfl) ?_
      refine lv_iconst (v := 1) hx hb dL_law_303 (by decide) ?_
      refine lv_iadd hx hb dL_law_304 ?_
      refine lv_topi (fun x_71 ex_71 => ?_)
      obtain rfl : x_71 = 1 := ex_71.trans (by decide)
      refine va_sld hx hb hX hbl hbA hS (vp_in_iff.mpr (by decide)) dL_law_305 ?_
      refine lv_aload_n hx hb dL_law_306 rfl (lv_at hl 3 rfl) ?_
      refine lv_iload_n hx hb dL_law_307 rfl (lv_at hl 0 rfl) ?_
      refine lv_iconst (v := 2) hx hb dL_law_308 (by decide) ?_
      refine lv_iadd hx hb dL_law_309 ?_
      refine lv_topi (fun x_72 ex_72 => ?_)
      obtain rfl : x_72 = 2 := ex_72.trans (by decide)
      refine va_sld hx hb hX hbl hbA hS (vp_in_iff.mpr (by decide)) dL_law_310 ?_
      have hPc := hP.sub (ws' := [(g0, .inr (4, [.ref g1, .ref g2, .ref g3, .ref g4, .ref g5, .ref g6, .ref g7, .ref g8, .ref g9, .ref g10, .ref g11, .ref g12, .ref g13, .ref g14, .ref g15, .ref g16, .ref g17, .ref g18, .int 0, .ref g19, .int 0, .int 0, .int 0])), (g1, .inl (kG1, 4, .inl (fun _ => 0)))]) [5, 6] rfl
      have hKc := hK.sub (tys' := [(kG1, .boolean)]) [2] rfl
      refine vp_callSi (W.runV (As := [.int (xs (1 : Int32).toNatClampNeg), .int (xs (2 : Int32).toNatClampNeg)]) (rest := [.int r_70]) ⟨hx, hb, hml, hown, hts⟩ (kX5_about l dC dI g0 g1 g2 g3 g4 g5 g6 g7 g8 g9 g10 g11 g12 g13 g14 g15 g16 g17 g18 g19 kG1 (xs (1 : Int32).toNatClampNeg) (xs (2 : Int32).toNatClampNeg)) (cwV 2 hts gL_law_X5_about rfl rfl rfl (by decide +kernel) ⟨Nat.le_of_ble_eq_true rfl, Nat.le_of_ble_eq_true rfl⟩) ⟨fun a U g mk q => by obtain ⟨q0, qP, qK⟩ := q; exact ⟨q0, qP, va_K.moved (u := U) (U := U.calling g mk a) (Vm.Alike.refl U.vm) qK⟩, va_recv hKc hPc (ci := 4) (q0 := 0) rfl rfl, fun U hU hW => ⟨rfl, by rw [hU]; exact hPc, va_K.moved hW.alike hKc⟩⟩ rfl rfl hl.1 rfl (lv_room (Nat.le_of_ble_eq_true rfl)) dL_law_311 ⟨Nat.le_of_ble_eq_true rfl, Nat.le_of_ble_eq_true rfl⟩) (fun r_73 hwr_73 => ?_)
      refine lv_icmp_eq (tgt := 672) hx hb dL_law_314 (by decide) (fun _ => ?_) (fun c_74 => False.elim (by first | exact c_74 (hwr_70.trans hwr_73.symm) | exact c_74 (zz_same hwr_70 hwr_73)))
      refine lv_iinc (v := 5) (lv' := [(3, .int 5), (2, .ref g0), (1, .ref h0), (0, .ref b)]) hx hb dL_law_672 hl (k := 0) rfl (by decide) (by decide) rfl (fun ls hl => ?_)
      refine lv_goto (tgt := 18) hx hb dL_law_675 (by decide) ?_
      refine lv_iload_n hx hb dL_law_18 rfl (lv_at hl 0 rfl) ?_
      refine lv_aload_n hx hb dL_law_19 rfl (lv_at hl 3 rfl) ?_
      refine va_slen hx hb hX hbl hbA hS dL_law_20 ?_
      refine W.eq (g2 := F0 m 21 ls [.int 5, .int 5]) rfl ?_
      refine lv_iconst (v := 5) hx hb dL_law_21 (by decide) ?_
      refine lv_isub hx hb dL_law_22 ?_
      refine lv_topi (fun x_76 ex_76 => ?_)
      obtain rfl : x_76 = 0 := ex_76.trans (by decide)
      refine lv_icmp_gt (tgt := 678) hx hb dL_law_23 (by decide) (fun _ => ?_) (fun c_77 => False.elim (by revert c_77; decide))
      refine lv_iconst (v := 1) hx hb dL_law_678 (by decide) ?_
      refine va_forget (fun q hq => hS.2.2 q hq) ?_
      refine W.widen (k := 600000) (n := 7302250) (by omega) (by omega) ?_
      exact lw_ret hx hb hr hlocks dL_law_679
    · refine lv_tableIn (tgt := 319) hx hb dL_law_32 (by omega) (by omega) (by rw [hk]; rfl) (by decide) ?_
      refine lv_aload_n hx hb dL_law_319 rfl (lv_at hl 2 rfl) ?_
      refine lv_aload_n hx hb dL_law_320 rfl (lv_at hl 3 rfl) ?_
      refine lv_iload_n hx hb dL_law_321 rfl (lv_at hl 0 rfl) ?_
      refine lv_iconst (v := 1) hx hb dL_law_322 (by decide) ?_
      refine lv_iadd hx hb dL_law_323 ?_
      refine lv_topi (fun x_78 ex_78 => ?_)
      obtain rfl : x_78 = 1 := ex_78.trans (by decide)
      refine va_sld hx hb hX hbl hbA hS (vp_in_iff.mpr (by decide)) dL_law_324 ?_
      refine lv_aload_n hx hb dL_law_325 rfl (lv_at hl 3 rfl) ?_
      refine lv_iload_n hx hb dL_law_326 rfl (lv_at hl 0 rfl) ?_
      refine lv_iconst (v := 2) hx hb dL_law_327 (by decide) ?_
      refine lv_iadd hx hb dL_law_328 ?_
      refine lv_topi (fun x_79 ex_79 => ?_)
      obtain rfl : x_79 = 2 := ex_79.trans (by decide)
      refine va_sld hx hb hX hbl hbA hS (vp_in_iff.mpr (by decide)) dL_law_329 ?_
      have hPc := hP.sub (ws' := [(h0, .inr (3, [.ref h1, .ref h2, .ref h4])), (h1, .inl (kS, 4, .inr (.inr (.inr (.inr (fun _ => none))))))]) [0, 1] rfl
      have hKc := hK.sub (tys' := [(kS, .object "SignForms$Stream")]) [0] rfl
      refine vp_callSi (W.runV (As := [.int (xs (1 : Int32).toNatClampNeg), .int (xs (2 : Int32).toNatClampNeg)]) (rest := []) ⟨hx, hb, hml, hown, hts⟩ (kX4_sign l dC dI h0 h1 h2 h4 kS (xs (1 : Int32).toNatClampNeg) (xs (2 : Int32).toNatClampNeg)) (cwV 2 hts gL_law_X4_sign rfl rfl rfl (by decide +kernel) ⟨Nat.le_of_ble_eq_true rfl, Nat.le_of_ble_eq_true rfl⟩) ⟨fun a U g mk q => by obtain ⟨q0, qP, qK⟩ := q; exact ⟨q0, qP, va_K.moved (u := U) (U := U.calling g mk a) (Vm.Alike.refl U.vm) qK⟩, va_recv hKc hPc (ci := 3) (q0 := 0) rfl rfl, fun U hU hW => ⟨rfl, by rw [hU]; exact hPc, va_K.moved hW.alike hKc⟩⟩ rfl rfl hl.1 rfl (lv_room (Nat.le_of_ble_eq_true rfl)) dL_law_330 ⟨Nat.le_of_ble_eq_true rfl, Nat.le_of_ble_eq_true rfl⟩) (fun r_80 hwr_80 => ?_)
      refine lv_aload_n hx hb dL_law_333 rfl (lv_at hl 1 rfl) ?_
      refine lv_aload_n hx hb dL_law_334 rfl (lv_at hl 3 rfl) ?_
      refine lv_iload_n hx hb dL_law_335 rfl (lv_at hl 0 rfl) ?_
      refine lv_iconst (v := 1) hx hb dL_law_336 (by decide) ?_
      refine lv_iadd hx hb dL_law_337 ?_
      refine lv_topi (fun x_81 ex_81 => ?_)
      obtain rfl : x_81 = 1 := ex_81.trans (by decide)
      refine va_sld hx hb hX hbl hbA hS (vp_in_iff.mpr (by decide)) dL_law_338 ?_
      refine lv_aload_n hx hb dL_law_339 rfl (lv_at hl 3 rfl) ?_
      refine lv_iload_n hx hb dL_law_340 rfl (lv_at hl 0 rfl) ?_
      refine lv_iconst (v := 2) hx hb dL_law_341 (by decide) ?_
      refine lv_iadd hx hb dL_law_342 ?_
      refine lv_topi (fun x_82 ex_82 => ?_)
      obtain rfl : x_82 = 2 := ex_82.trans (by decide)
      refine va_sld hx hb hX hbl hbA hS (vp_in_iff.mpr (by decide)) dL_law_343 ?_
      have hPc := hP.sub (ws' := [(g0, .inr (4, [.ref g1, .ref g2, .ref g3, .ref g4, .ref g5, .ref g6, .ref g7, .ref g8, .ref g9, .ref g10, .ref g11, .ref g12, .ref g13, .ref g14, .ref g15, .ref g16, .ref g17, .ref g18, .int 0, .ref g19, .int 0, .int 0, .int 0])), (g1, .inl (kG1, 4, .inl (fun _ => 0)))]) [5, 6] rfl
      have hKc := hK.sub (tys' := [(kG1, .boolean)]) [2] rfl
      refine vp_callSi (W.runV (As := [.int (xs (1 : Int32).toNatClampNeg), .int (xs (2 : Int32).toNatClampNeg)]) (rest := [.int r_80]) ⟨hx, hb, hml, hown, hts⟩ (kX5_sign l dC dI g0 g1 g2 g3 g4 g5 g6 g7 g8 g9 g10 g11 g12 g13 g14 g15 g16 g17 g18 g19 kG1 (xs (1 : Int32).toNatClampNeg) (xs (2 : Int32).toNatClampNeg)) (cwV 2 hts gL_law_X5_sign rfl rfl rfl (by decide +kernel) ⟨Nat.le_of_ble_eq_true rfl, Nat.le_of_ble_eq_true rfl⟩) ⟨fun a U g mk q => by obtain ⟨q0, qP, qK⟩ := q; exact ⟨q0, qP, va_K.moved (u := U) (U := U.calling g mk a) (Vm.Alike.refl U.vm) qK⟩, va_recv hKc hPc (ci := 4) (q0 := 0) rfl rfl, fun U hU hW => ⟨rfl, by rw [hU]; exact hPc, va_K.moved hW.alike hKc⟩⟩ rfl rfl hl.1 rfl (lv_room (Nat.le_of_ble_eq_true rfl)) dL_law_344 ⟨Nat.le_of_ble_eq_true rfl, Nat.le_of_ble_eq_true rfl⟩) (fun r_83 hwr_83 => ?_)
      refine lv_icmp_eq (tgt := 672) hx hb dL_law_347 (by decide) (fun _ => ?_) (fun c_84 => False.elim (by first | exact c_84 (hwr_80.trans hwr_83.symm) | exact c_84 (zz_same hwr_80 hwr_83)))
      refine lv_iinc (v := 5) (lv' := [(3, .int 5), (2, .ref g0), (1, .ref h0), (0, .ref b)]) hx hb dL_law_672 hl (k := 0) rfl (by decide) (by decide) rfl (fun ls hl => ?_)
      refine lv_goto (tgt := 18) hx hb dL_law_675 (by decide) ?_
      refine lv_iload_n hx hb dL_law_18 rfl (lv_at hl 0 rfl) ?_
      refine lv_aload_n hx hb dL_law_19 rfl (lv_at hl 3 rfl) ?_
      refine va_slen hx hb hX hbl hbA hS dL_law_20 ?_
      refine W.eq (g2 := F0 m 21 ls [.int 5, .int 5]) rfl ?_
      refine lv_iconst (v := 5) hx hb dL_law_21 (by decide) ?_
      refine lv_isub hx hb dL_law_22 ?_
      refine lv_topi (fun x_86 ex_86 => ?_)
      obtain rfl : x_86 = 0 := ex_86.trans (by decide)
      refine lv_icmp_gt (tgt := 678) hx hb dL_law_23 (by decide) (fun _ => ?_) (fun c_87 => False.elim (by revert c_87; decide))
      refine lv_iconst (v := 1) hx hb dL_law_678 (by decide) ?_
      refine va_forget (fun q hq => hS.2.2 q hq) ?_
      refine W.widen (k := 600000) (n := 7302250) (by omega) (by omega) ?_
      exact lw_ret hx hb hr hlocks dL_law_679
    · refine lv_tableIn (tgt := 352) hx hb dL_law_32 (by omega) (by omega) (by rw [hk]; rfl) (by decide) ?_
      refine lv_aload_n hx hb dL_law_352 rfl (lv_at hl 2 rfl) ?_
      refine lv_aload_n hx hb dL_law_353 rfl (lv_at hl 3 rfl) ?_
      refine lv_iload_n hx hb dL_law_354 rfl (lv_at hl 0 rfl) ?_
      refine lv_iconst (v := 1) hx hb dL_law_355 (by decide) ?_
      refine lv_iadd hx hb dL_law_356 ?_
      refine lv_topi (fun x_88 ex_88 => ?_)
      obtain rfl : x_88 = 1 := ex_88.trans (by decide)
      refine va_sld hx hb hX hbl hbA hS (vp_in_iff.mpr (by decide)) dL_law_357 ?_
      refine lv_aload_n hx hb dL_law_358 rfl (lv_at hl 3 rfl) ?_
      refine lv_iload_n hx hb dL_law_359 rfl (lv_at hl 0 rfl) ?_
      refine lv_iconst (v := 2) hx hb dL_law_360 (by decide) ?_
      refine lv_iadd hx hb dL_law_361 ?_
      refine lv_topi (fun x_89 ex_89 => ?_)
      obtain rfl : x_89 = 2 := ex_89.trans (by decide)
      refine va_sld hx hb hX hbl hbA hS (vp_in_iff.mpr (by decide)) dL_law_362 ?_
      refine lv_aload_n hx hb dL_law_363 rfl (lv_at hl 3 rfl) ?_
      refine lv_iload_n hx hb dL_law_364 rfl (lv_at hl 0 rfl) ?_
      refine lv_iconst (v := 3) hx hb dL_law_365 (by decide) ?_
      refine lv_iadd hx hb dL_law_366 ?_
      refine lv_topi (fun x_90 ex_90 => ?_)
      obtain rfl : x_90 = 3 := ex_90.trans (by decide)
      refine va_sld hx hb hX hbl hbA hS (vp_in_iff.mpr (by decide)) dL_law_367 ?_
      have hPc := hP.sub (ws' := [(h0, .inr (3, [.ref h1, .ref h2, .ref h4])), (h1, .inl (kS, 4, .inr (.inr (.inr (.inr (fun _ => none))))))]) [0, 1] rfl
      have hKc := hK.sub (tys' := [(kS, .object "SignForms$Stream")]) [0] rfl
      refine vp_callSi (W.runV (As := [.int (xs (1 : Int32).toNatClampNeg), .int (xs (2 : Int32).toNatClampNeg), .int (xs (3 : Int32).toNatClampNeg)]) (rest := []) ⟨hx, hb, hml, hown, hts⟩ (kX4_placed l dC dI h0 h1 h2 h4 kS (xs (1 : Int32).toNatClampNeg) (xs (2 : Int32).toNatClampNeg) (xs (3 : Int32).toNatClampNeg)) (cwV 3 hts gL_law_X4_placed rfl rfl rfl (by decide +kernel) ⟨Nat.le_of_ble_eq_true rfl, Nat.le_of_ble_eq_true rfl⟩) ⟨fun a U g mk q => by obtain ⟨q0, qP, qK⟩ := q; exact ⟨q0, qP, va_K.moved (u := U) (U := U.calling g mk a) (Vm.Alike.refl U.vm) qK⟩, va_recv hKc hPc (ci := 3) (q0 := 0) rfl rfl, fun U hU hW => ⟨rfl, by rw [hU]; exact hPc, va_K.moved hW.alike hKc⟩⟩ rfl rfl hl.1 rfl (lv_room (Nat.le_of_ble_eq_true rfl)) dL_law_368 ⟨Nat.le_of_ble_eq_true rfl, Nat.le_of_ble_eq_true rfl⟩) (fun r_91 hwr_91 => ?_)
      refine lv_aload_n hx hb dL_law_371 rfl (lv_at hl 1 rfl) ?_
      refine lv_aload_n hx hb dL_law_372 rfl (lv_at hl 3 rfl) ?_
      refine lv_iload_n hx hb dL_law_373 rfl (lv_at hl 0 rfl) ?_
      refine lv_iconst (v := 1) hx hb dL_law_374 (by decide) ?_
      refine lv_iadd hx hb dL_law_375 ?_
      refine lv_topi (fun x_92 ex_92 => ?_)
      obtain rfl : x_92 = 1 := ex_92.trans (by decide)
      refine va_sld hx hb hX hbl hbA hS (vp_in_iff.mpr (by decide)) dL_law_376 ?_
      refine lv_aload_n hx hb dL_law_377 rfl (lv_at hl 3 rfl) ?_
      refine lv_iload_n hx hb dL_law_378 rfl (lv_at hl 0 rfl) ?_
      refine lv_iconst (v := 2) hx hb dL_law_379 (by decide) ?_
      refine lv_iadd hx hb dL_law_380 ?_
      refine lv_topi (fun x_93 ex_93 => ?_)
      obtain rfl : x_93 = 2 := ex_93.trans (by decide)
      refine va_sld hx hb hX hbl hbA hS (vp_in_iff.mpr (by decide)) dL_law_381 ?_
      refine lv_aload_n hx hb dL_law_382 rfl (lv_at hl 3 rfl) ?_
      refine lv_iload_n hx hb dL_law_383 rfl (lv_at hl 0 rfl) ?_
      refine lv_iconst (v := 3) hx hb dL_law_384 (by decide) ?_
      refine lv_iadd hx hb dL_law_385 ?_
      refine lv_topi (fun x_94 ex_94 => ?_)
      obtain rfl : x_94 = 3 := ex_94.trans (by decide)
      refine va_sld hx hb hX hbl hbA hS (vp_in_iff.mpr (by decide)) dL_law_386 ?_
      have hPc := hP.sub (ws' := [(g0, .inr (4, [.ref g1, .ref g2, .ref g3, .ref g4, .ref g5, .ref g6, .ref g7, .ref g8, .ref g9, .ref g10, .ref g11, .ref g12, .ref g13, .ref g14, .ref g15, .ref g16, .ref g17, .ref g18, .int 0, .ref g19, .int 0, .int 0, .int 0])), (g1, .inl (kG1, 4, .inl (fun _ => 0)))]) [5, 6] rfl
      have hKc := hK.sub (tys' := [(kG1, .boolean)]) [2] rfl
      refine vp_callSi (W.runV (As := [.int (xs (1 : Int32).toNatClampNeg), .int (xs (2 : Int32).toNatClampNeg), .int (xs (3 : Int32).toNatClampNeg)]) (rest := [.int r_91]) ⟨hx, hb, hml, hown, hts⟩ (kX5_placed l dC dI g0 g1 g2 g3 g4 g5 g6 g7 g8 g9 g10 g11 g12 g13 g14 g15 g16 g17 g18 g19 kG1 (xs (1 : Int32).toNatClampNeg) (xs (2 : Int32).toNatClampNeg) (xs (3 : Int32).toNatClampNeg)) (cwV 3 hts gL_law_X5_placed rfl rfl rfl (by decide +kernel) ⟨Nat.le_of_ble_eq_true rfl, Nat.le_of_ble_eq_true rfl⟩) ⟨fun a U g mk q => by obtain ⟨q0, qP, qK⟩ := q; exact ⟨q0, qP, va_K.moved (u := U) (U := U.calling g mk a) (Vm.Alike.refl U.vm) qK⟩, va_recv hKc hPc (ci := 4) (q0 := 0) rfl rfl, fun U hU hW => ⟨rfl, by rw [hU]; exact hPc, va_K.moved hW.alike hKc⟩⟩ rfl rfl hl.1 rfl (lv_room (Nat.le_of_ble_eq_true rfl)) dL_law_387 ⟨Nat.le_of_ble_eq_true rfl, Nat.le_of_ble_eq_true rfl⟩) (fun r_95 hwr_95 => ?_)
      refine lv_icmp_eq (tgt := 672) hx hb dL_law_390 (by decide) (fun _ => ?_) (fun c_96 => False.elim (by first | exact c_96 (hwr_91.trans hwr_95.symm) | exact c_96 (zz_same hwr_91 hwr_95)))
      refine lv_iinc (v := 5) (lv' := [(3, .int 5), (2, .ref g0), (1, .ref h0), (0, .ref b)]) hx hb dL_law_672 hl (k := 0) rfl (by decide) (by decide) rfl (fun ls hl => ?_)
      refine lv_goto (tgt := 18) hx hb dL_law_675 (by decide) ?_
      refine lv_iload_n hx hb dL_law_18 rfl (lv_at hl 0 rfl) ?_
      refine lv_aload_n hx hb dL_law_19 rfl (lv_at hl 3 rfl) ?_
      refine va_slen hx hb hX hbl hbA hS dL_law_20 ?_
      refine W.eq (g2 := F0 m 21 ls [.int 5, .int 5]) rfl ?_
      refine lv_iconst (v := 5) hx hb dL_law_21 (by decide) ?_
      refine lv_isub hx hb dL_law_22 ?_
      refine lv_topi (fun x_98 ex_98 => ?_)
      obtain rfl : x_98 = 0 := ex_98.trans (by decide)
      refine lv_icmp_gt (tgt := 678) hx hb dL_law_23 (by decide) (fun _ => ?_) (fun c_99 => False.elim (by revert c_99; decide))
      refine lv_iconst (v := 1) hx hb dL_law_678 (by decide) ?_
      refine va_forget (fun q hq => hS.2.2 q hq) ?_
      refine W.widen (k := 600000) (n := 7302250) (by omega) (by omega) ?_
      exact lw_ret hx hb hr hlocks dL_law_679
    · refine lv_tableIn (tgt := 395) hx hb dL_law_32 (by omega) (by omega) (by rw [hk]; rfl) (by decide) ?_
      refine lv_aload_n hx hb dL_law_395 rfl (lv_at hl 2 rfl) ?_
      refine lv_aload_n hx hb dL_law_396 rfl (lv_at hl 3 rfl) ?_
      refine lv_iload_n hx hb dL_law_397 rfl (lv_at hl 0 rfl) ?_
      refine lv_iconst (v := 1) hx hb dL_law_398 (by decide) ?_
      refine lv_iadd hx hb dL_law_399 ?_
      refine lv_topi (fun x_100 ex_100 => ?_)
      obtain rfl : x_100 = 1 := ex_100.trans (by decide)
      refine va_sld hx hb hX hbl hbA hS (vp_in_iff.mpr (by decide)) dL_law_400 ?_
      refine lv_aload_n hx hb dL_law_401 rfl (lv_at hl 3 rfl) ?_
      refine lv_iload_n hx hb dL_law_402 rfl (lv_at hl 0 rfl) ?_
      refine lv_iconst (v := 2) hx hb dL_law_403 (by decide) ?_
      refine lv_iadd hx hb dL_law_404 ?_
      refine lv_topi (fun x_101 ex_101 => ?_)
      obtain rfl : x_101 = 2 := ex_101.trans (by decide)
      refine va_sld hx hb hX hbl hbA hS (vp_in_iff.mpr (by decide)) dL_law_405 ?_
      have hPc := hP.sub (ws' := [(h0, .inr (3, [.ref h1, .ref h2, .ref h4])), (h1, .inl (kS, 4, .inr (.inr (.inr (.inr (fun _ => none))))))]) [0, 1] rfl
      have hKc := hK.sub (tys' := [(kS, .object "SignForms$Stream")]) [0] rfl
      refine vp_callSi (W.runV (As := [.int (xs (1 : Int32).toNatClampNeg), .int (xs (2 : Int32).toNatClampNeg)]) (rest := []) ⟨hx, hb, hml, hown, hts⟩ (kX4_at l dC dI h0 h1 h2 h4 kS (xs (1 : Int32).toNatClampNeg) (xs (2 : Int32).toNatClampNeg)) (cwV 2 hts gL_law_X4_at rfl rfl rfl (by decide +kernel) ⟨Nat.le_of_ble_eq_true rfl, Nat.le_of_ble_eq_true rfl⟩) ⟨fun a U g mk q => by obtain ⟨q0, qP, qK⟩ := q; exact ⟨q0, qP, va_K.moved (u := U) (U := U.calling g mk a) (Vm.Alike.refl U.vm) qK⟩, va_recv hKc hPc (ci := 3) (q0 := 0) rfl rfl, fun U hU hW => ⟨rfl, by rw [hU]; exact hPc, va_K.moved hW.alike hKc⟩⟩ rfl rfl hl.1 rfl (lv_room (Nat.le_of_ble_eq_true rfl)) dL_law_406 ⟨Nat.le_of_ble_eq_true rfl, Nat.le_of_ble_eq_true rfl⟩) (fun r_102 hwr_102 => ?_)
      refine lv_aload_n hx hb dL_law_409 rfl (lv_at hl 1 rfl) ?_
      refine lv_aload_n hx hb dL_law_410 rfl (lv_at hl 3 rfl) ?_
      refine lv_iload_n hx hb dL_law_411 rfl (lv_at hl 0 rfl) ?_
      refine lv_iconst (v := 1) hx hb dL_law_412 (by decide) ?_
      refine lv_iadd hx hb dL_law_413 ?_
      refine lv_topi (fun x_103 ex_103 => ?_)
      obtain rfl : x_103 = 1 := ex_103.trans (by decide)
      refine va_sld hx hb hX hbl hbA hS (vp_in_iff.mpr (by decide)) dL_law_414 ?_
      refine lv_aload_n hx hb dL_law_415 rfl (lv_at hl 3 rfl) ?_
      refine lv_iload_n hx hb dL_law_416 rfl (lv_at hl 0 rfl) ?_
      refine lv_iconst (v := 2) hx hb dL_law_417 (by decide) ?_
      refine lv_iadd hx hb dL_law_418 ?_
      refine lv_topi (fun x_104 ex_104 => ?_)
      obtain rfl : x_104 = 2 := ex_104.trans (by decide)
      refine va_sld hx hb hX hbl hbA hS (vp_in_iff.mpr (by decide)) dL_law_419 ?_
      have hPc := hP.sub (ws' := [(g0, .inr (4, [.ref g1, .ref g2, .ref g3, .ref g4, .ref g5, .ref g6, .ref g7, .ref g8, .ref g9, .ref g10, .ref g11, .ref g12, .ref g13, .ref g14, .ref g15, .ref g16, .ref g17, .ref g18, .int 0, .ref g19, .int 0, .int 0, .int 0])), (g1, .inl (kG1, 4, .inl (fun _ => 0)))]) [5, 6] rfl
      have hKc := hK.sub (tys' := [(kG1, .boolean)]) [2] rfl
      refine vp_callSi (W.runV (As := [.int (xs (1 : Int32).toNatClampNeg), .int (xs (2 : Int32).toNatClampNeg)]) (rest := [.int r_102]) ⟨hx, hb, hml, hown, hts⟩ (kX5_at l dC dI g0 g1 g2 g3 g4 g5 g6 g7 g8 g9 g10 g11 g12 g13 g14 g15 g16 g17 g18 g19 kG1 (xs (1 : Int32).toNatClampNeg) (xs (2 : Int32).toNatClampNeg)) (cwV 2 hts gL_law_X5_at rfl rfl rfl (by decide +kernel) ⟨Nat.le_of_ble_eq_true rfl, Nat.le_of_ble_eq_true rfl⟩) ⟨fun a U g mk q => by obtain ⟨q0, qP, qK⟩ := q; exact ⟨q0, qP, va_K.moved (u := U) (U := U.calling g mk a) (Vm.Alike.refl U.vm) qK⟩, va_recv hKc hPc (ci := 4) (q0 := 0) rfl rfl, fun U hU hW => ⟨rfl, by rw [hU]; exact hPc, va_K.moved hW.alike hKc⟩⟩ rfl rfl hl.1 rfl (lv_room (Nat.le_of_ble_eq_true rfl)) dL_law_420 ⟨Nat.le_of_ble_eq_true rfl, Nat.le_of_ble_eq_true rfl⟩) (fun r_105 hwr_105 => ?_)
      refine lv_icmp_eq (tgt := 672) hx hb dL_law_423 (by decide) (fun _ => ?_) (fun c_106 => False.elim (by first | exact c_106 (hwr_102.trans hwr_105.symm) | exact c_106 (zz_same hwr_102 hwr_105)))
      refine lv_iinc (v := 5) (lv' := [(3, .int 5), (2, .ref g0), (1, .ref h0), (0, .ref b)]) hx hb dL_law_672 hl (k := 0) rfl (by decide) (by decide) rfl (fun ls hl => ?_)
      refine lv_goto (tgt := 18) hx hb dL_law_675 (by decide) ?_
      refine lv_iload_n hx hb dL_law_18 rfl (lv_at hl 0 rfl) ?_
      refine lv_aload_n hx hb dL_law_19 rfl (lv_at hl 3 rfl) ?_
      refine va_slen hx hb hX hbl hbA hS dL_law_20 ?_
      refine W.eq (g2 := F0 m 21 ls [.int 5, .int 5]) rfl ?_
      refine lv_iconst (v := 5) hx hb dL_law_21 (by decide) ?_
      refine lv_isub hx hb dL_law_22 ?_
      refine lv_topi (fun x_108 ex_108 => ?_)
      obtain rfl : x_108 = 0 := ex_108.trans (by decide)
      refine lv_icmp_gt (tgt := 678) hx hb dL_law_23 (by decide) (fun _ => ?_) (fun c_109 => False.elim (by revert c_109; decide))
      refine lv_iconst (v := 1) hx hb dL_law_678 (by decide) ?_
      refine va_forget (fun q hq => hS.2.2 q hq) ?_
      refine W.widen (k := 600000) (n := 7302250) (by omega) (by omega) ?_
      exact lw_ret hx hb hr hlocks dL_law_679
    · refine lv_tableIn (tgt := 428) hx hb dL_law_32 (by omega) (by omega) (by rw [hk]; rfl) (by decide) ?_
      refine lv_aload_n hx hb dL_law_428 rfl (lv_at hl 2 rfl) ?_
      refine lv_aload_n hx hb dL_law_429 rfl (lv_at hl 3 rfl) ?_
      refine lv_iload_n hx hb dL_law_430 rfl (lv_at hl 0 rfl) ?_
      refine lv_iconst (v := 1) hx hb dL_law_431 (by decide) ?_
      refine lv_iadd hx hb dL_law_432 ?_
      refine lv_topi (fun x_110 ex_110 => ?_)
      obtain rfl : x_110 = 1 := ex_110.trans (by decide)
      refine va_sld hx hb hX hbl hbA hS (vp_in_iff.mpr (by decide)) dL_law_433 ?_
      refine lv_aload_n hx hb dL_law_434 rfl (lv_at hl 3 rfl) ?_
      refine lv_iload_n hx hb dL_law_435 rfl (lv_at hl 0 rfl) ?_
      refine lv_iconst (v := 2) hx hb dL_law_436 (by decide) ?_
      refine lv_iadd hx hb dL_law_437 ?_
      refine lv_topi (fun x_111 ex_111 => ?_)
      obtain rfl : x_111 = 2 := ex_111.trans (by decide)
      refine va_sld hx hb hX hbl hbA hS (vp_in_iff.mpr (by decide)) dL_law_438 ?_
      refine lv_aload_n hx hb dL_law_439 rfl (lv_at hl 3 rfl) ?_
      refine lv_iload_n hx hb dL_law_440 rfl (lv_at hl 0 rfl) ?_
      refine lv_iconst (v := 3) hx hb dL_law_441 (by decide) ?_
      refine lv_iadd hx hb dL_law_442 ?_
      refine lv_topi (fun x_112 ex_112 => ?_)
      obtain rfl : x_112 = 3 := ex_112.trans (by decide)
      refine va_sld hx hb hX hbl hbA hS (vp_in_iff.mpr (by decide)) dL_law_443 ?_
      refine lv_if_eq (tgt := 451) hx hb dL_law_444 (by decide) (fun c_113 => ?_) (fun c_113 => ?_)
      · have zc_113 : ((xs (3 : Int32).toNatClampNeg)).toInt = (0 : Int) := zz_eq rfl (by decide) c_113
        refine lv_iconst (v := 0) hx hb dL_law_451 (by decide) ?_
        have hPc := hP.sub (ws' := [(h0, .inr (3, [.ref h1, .ref h2, .ref h4])), (h1, .inl (kS, 4, .inr (.inr (.inr (.inr (fun _ => none))))))]) [0, 1] rfl
        have hKc := hK.sub (tys' := [(kS, .object "SignForms$Stream")]) [0] rfl
        refine vp_callSi (W.runV (As := [.int (xs (1 : Int32).toNatClampNeg), .int (xs (2 : Int32).toNatClampNeg), .int 0]) (rest := []) ⟨hx, hb, hml, hown, hts⟩ (kX4_write l dC dI h0 h1 h2 h4 kS (xs (1 : Int32).toNatClampNeg) (xs (2 : Int32).toNatClampNeg) 0) (cwV 3 hts gL_law_X4_write rfl rfl rfl (by decide +kernel) ⟨Nat.le_of_ble_eq_true rfl, Nat.le_of_ble_eq_true rfl⟩) ⟨fun a U g mk q => by obtain ⟨q0, qP, qK⟩ := q; exact ⟨q0, qP, va_K.moved (u := U) (U := U.calling g mk a) (Vm.Alike.refl U.vm) qK⟩, va_recv hKc hPc (ci := 3) (q0 := 0) rfl rfl, fun U hU hW => ⟨rfl, by rw [hU]; exact hPc, va_K.moved hW.alike hKc⟩⟩ rfl rfl hl.1 rfl (lv_room (Nat.le_of_ble_eq_true rfl)) dL_law_452 ⟨Nat.le_of_ble_eq_true rfl, Nat.le_of_ble_eq_true rfl⟩) (fun r_114 hwr_114 => ?_)
        refine lv_aload_n hx hb dL_law_455 rfl (lv_at hl 1 rfl) ?_
        refine lv_aload_n hx hb dL_law_456 rfl (lv_at hl 3 rfl) ?_
        refine lv_iload_n hx hb dL_law_457 rfl (lv_at hl 0 rfl) ?_
        refine lv_iconst (v := 1) hx hb dL_law_458 (by decide) ?_
        refine lv_iadd hx hb dL_law_459 ?_
        refine lv_topi (fun x_115 ex_115 => ?_)
        obtain rfl : x_115 = 1 := ex_115.trans (by decide)
        refine va_sld hx hb hX hbl hbA hS (vp_in_iff.mpr (by decide)) dL_law_460 ?_
        refine lv_aload_n hx hb dL_law_461 rfl (lv_at hl 3 rfl) ?_
        refine lv_iload_n hx hb dL_law_462 rfl (lv_at hl 0 rfl) ?_
        refine lv_iconst (v := 2) hx hb dL_law_463 (by decide) ?_
        refine lv_iadd hx hb dL_law_464 ?_
        refine lv_topi (fun x_116 ex_116 => ?_)
        obtain rfl : x_116 = 2 := ex_116.trans (by decide)
        refine va_sld hx hb hX hbl hbA hS (vp_in_iff.mpr (by decide)) dL_law_465 ?_
        refine lv_aload_n hx hb dL_law_466 rfl (lv_at hl 3 rfl) ?_
        refine lv_iload_n hx hb dL_law_467 rfl (lv_at hl 0 rfl) ?_
        refine lv_iconst (v := 3) hx hb dL_law_468 (by decide) ?_
        refine lv_iadd hx hb dL_law_469 ?_
        refine lv_topi (fun x_117 ex_117 => ?_)
        obtain rfl : x_117 = 3 := ex_117.trans (by decide)
        refine va_sld hx hb hX hbl hbA hS (vp_in_iff.mpr (by decide)) dL_law_470 ?_
        refine lv_if_eq (tgt := 478) hx hb dL_law_471 (by decide) (fun c_118 => ?_) (fun c_118 => ?_)
        · have zc_118 : ((xs (3 : Int32).toNatClampNeg)).toInt = (0 : Int) := zz_eq rfl (by decide) c_118
          refine lv_iconst (v := 0) hx hb dL_law_478 (by decide) ?_
          have hPc := hP.sub (ws' := [(g0, .inr (4, [.ref g1, .ref g2, .ref g3, .ref g4, .ref g5, .ref g6, .ref g7, .ref g8, .ref g9, .ref g10, .ref g11, .ref g12, .ref g13, .ref g14, .ref g15, .ref g16, .ref g17, .ref g18, .int 0, .ref g19, .int 0, .int 0, .int 0])), (g1, .inl (kG1, 4, .inl (fun _ => 0)))]) [5, 6] rfl
          have hKc := hK.sub (tys' := [(kG1, .boolean)]) [2] rfl
          refine vp_callSi (W.runV (As := [.int (xs (1 : Int32).toNatClampNeg), .int (xs (2 : Int32).toNatClampNeg), .int 0]) (rest := [.int r_114]) ⟨hx, hb, hml, hown, hts⟩ (kX5_write l dC dI g0 g1 g2 g3 g4 g5 g6 g7 g8 g9 g10 g11 g12 g13 g14 g15 g16 g17 g18 g19 kG1 (xs (1 : Int32).toNatClampNeg) (xs (2 : Int32).toNatClampNeg) 0) (cwV 3 hts gL_law_X5_write rfl rfl rfl (by decide +kernel) ⟨Nat.le_of_ble_eq_true rfl, Nat.le_of_ble_eq_true rfl⟩) ⟨fun a U g mk q => by obtain ⟨q0, qP, qK⟩ := q; exact ⟨q0, qP, va_K.moved (u := U) (U := U.calling g mk a) (Vm.Alike.refl U.vm) qK⟩, va_recv hKc hPc (ci := 4) (q0 := 0) rfl rfl, fun U hU hW => ⟨rfl, by rw [hU]; exact hPc, va_K.moved hW.alike hKc⟩⟩ rfl rfl hl.1 rfl (lv_room (Nat.le_of_ble_eq_true rfl)) dL_law_479 ⟨Nat.le_of_ble_eq_true rfl, Nat.le_of_ble_eq_true rfl⟩) (fun r_119 hwr_119 => ?_)
          refine lv_icmp_eq (tgt := 672) hx hb dL_law_482 (by decide) (fun _ => ?_) (fun c_120 => False.elim (by first | exact c_120 (hwr_114.trans hwr_119.symm) | exact c_120 (zz_same hwr_114 hwr_119)))
          refine lv_iinc (v := 5) (lv' := [(3, .int 5), (2, .ref g0), (1, .ref h0), (0, .ref b)]) hx hb dL_law_672 hl (k := 0) rfl (by decide) (by decide) rfl (fun ls hl => ?_)
          refine lv_goto (tgt := 18) hx hb dL_law_675 (by decide) ?_
          refine lv_iload_n hx hb dL_law_18 rfl (lv_at hl 0 rfl) ?_
          refine lv_aload_n hx hb dL_law_19 rfl (lv_at hl 3 rfl) ?_
          refine va_slen hx hb hX hbl hbA hS dL_law_20 ?_
          refine W.eq (g2 := F0 m 21 ls [.int 5, .int 5]) rfl ?_
          refine lv_iconst (v := 5) hx hb dL_law_21 (by decide) ?_
          refine lv_isub hx hb dL_law_22 ?_
          refine lv_topi (fun x_122 ex_122 => ?_)
          obtain rfl : x_122 = 0 := ex_122.trans (by decide)
          refine lv_icmp_gt (tgt := 678) hx hb dL_law_23 (by decide) (fun _ => ?_) (fun c_123 => False.elim (by revert c_123; decide))
          refine lv_iconst (v := 1) hx hb dL_law_678 (by decide) ?_
          refine va_forget (fun q hq => hS.2.2 q hq) ?_
          refine W.widen (k := 600000) (n := 7302250) (by omega) (by omega) ?_
          exact lw_ret hx hb hr hlocks dL_law_679
        · have zc_118 : ((xs (3 : Int32).toNatClampNeg)).toInt ≠ (0 : Int) := zz_neq rfl (by decide) c_118
          refine lv_iconst (v := 1) hx hb dL_law_474 (by decide) ?_
          refine lv_goto (tgt := 479) hx hb dL_law_475 (by decide) ?_
          have hPc := hP.sub (ws' := [(g0, .inr (4, [.ref g1, .ref g2, .ref g3, .ref g4, .ref g5, .ref g6, .ref g7, .ref g8, .ref g9, .ref g10, .ref g11, .ref g12, .ref g13, .ref g14, .ref g15, .ref g16, .ref g17, .ref g18, .int 0, .ref g19, .int 0, .int 0, .int 0])), (g1, .inl (kG1, 4, .inl (fun _ => 0)))]) [5, 6] rfl
          have hKc := hK.sub (tys' := [(kG1, .boolean)]) [2] rfl
          refine vp_callSi (W.runV (As := [.int (xs (1 : Int32).toNatClampNeg), .int (xs (2 : Int32).toNatClampNeg), .int 1]) (rest := [.int r_114]) ⟨hx, hb, hml, hown, hts⟩ (kX5_write l dC dI g0 g1 g2 g3 g4 g5 g6 g7 g8 g9 g10 g11 g12 g13 g14 g15 g16 g17 g18 g19 kG1 (xs (1 : Int32).toNatClampNeg) (xs (2 : Int32).toNatClampNeg) 1) (cwV 3 hts gL_law_X5_write rfl rfl rfl (by decide +kernel) ⟨Nat.le_of_ble_eq_true rfl, Nat.le_of_ble_eq_true rfl⟩) ⟨fun a U g mk q => by obtain ⟨q0, qP, qK⟩ := q; exact ⟨q0, qP, va_K.moved (u := U) (U := U.calling g mk a) (Vm.Alike.refl U.vm) qK⟩, va_recv hKc hPc (ci := 4) (q0 := 0) rfl rfl, fun U hU hW => ⟨rfl, by rw [hU]; exact hPc, va_K.moved hW.alike hKc⟩⟩ rfl rfl hl.1 rfl (lv_room (Nat.le_of_ble_eq_true rfl)) dL_law_479 ⟨Nat.le_of_ble_eq_true rfl, Nat.le_of_ble_eq_true rfl⟩) (fun r_124 hwr_124 => ?_)
          refine lv_icmp_eq (tgt := 672) hx hb dL_law_482 (by decide) (fun _ => ?_) (fun c_125 => False.elim (by first | exact c_125 (hwr_114.trans hwr_124.symm) | exact c_125 (zz_same hwr_114 hwr_124)))
          refine lv_iinc (v := 5) (lv' := [(3, .int 5), (2, .ref g0), (1, .ref h0), (0, .ref b)]) hx hb dL_law_672 hl (k := 0) rfl (by decide) (by decide) rfl (fun ls hl => ?_)
          refine lv_goto (tgt := 18) hx hb dL_law_675 (by decide) ?_
          refine lv_iload_n hx hb dL_law_18 rfl (lv_at hl 0 rfl) ?_
          refine lv_aload_n hx hb dL_law_19 rfl (lv_at hl 3 rfl) ?_
          refine va_slen hx hb hX hbl hbA hS dL_law_20 ?_
          refine W.eq (g2 := F0 m 21 ls [.int 5, .int 5]) rfl ?_
          refine lv_iconst (v := 5) hx hb dL_law_21 (by decide) ?_
          refine lv_isub hx hb dL_law_22 ?_
          refine lv_topi (fun x_127 ex_127 => ?_)
          obtain rfl : x_127 = 0 := ex_127.trans (by decide)
          refine lv_icmp_gt (tgt := 678) hx hb dL_law_23 (by decide) (fun _ => ?_) (fun c_128 => False.elim (by revert c_128; decide))
          refine lv_iconst (v := 1) hx hb dL_law_678 (by decide) ?_
          refine va_forget (fun q hq => hS.2.2 q hq) ?_
          refine W.widen (k := 600000) (n := 7302250) (by omega) (by omega) ?_
          exact lw_ret hx hb hr hlocks dL_law_679
      · have zc_113 : ((xs (3 : Int32).toNatClampNeg)).toInt ≠ (0 : Int) := zz_neq rfl (by decide) c_113
        refine lv_iconst (v := 1) hx hb dL_law_447 (by decide) ?_
        refine lv_goto (tgt := 452) hx hb dL_law_448 (by decide) ?_
        have hPc := hP.sub (ws' := [(h0, .inr (3, [.ref h1, .ref h2, .ref h4])), (h1, .inl (kS, 4, .inr (.inr (.inr (.inr (fun _ => none))))))]) [0, 1] rfl
        have hKc := hK.sub (tys' := [(kS, .object "SignForms$Stream")]) [0] rfl
        refine vp_callSi (W.runV (As := [.int (xs (1 : Int32).toNatClampNeg), .int (xs (2 : Int32).toNatClampNeg), .int 1]) (rest := []) ⟨hx, hb, hml, hown, hts⟩ (kX4_write l dC dI h0 h1 h2 h4 kS (xs (1 : Int32).toNatClampNeg) (xs (2 : Int32).toNatClampNeg) 1) (cwV 3 hts gL_law_X4_write rfl rfl rfl (by decide +kernel) ⟨Nat.le_of_ble_eq_true rfl, Nat.le_of_ble_eq_true rfl⟩) ⟨fun a U g mk q => by obtain ⟨q0, qP, qK⟩ := q; exact ⟨q0, qP, va_K.moved (u := U) (U := U.calling g mk a) (Vm.Alike.refl U.vm) qK⟩, va_recv hKc hPc (ci := 3) (q0 := 0) rfl rfl, fun U hU hW => ⟨rfl, by rw [hU]; exact hPc, va_K.moved hW.alike hKc⟩⟩ rfl rfl hl.1 rfl (lv_room (Nat.le_of_ble_eq_true rfl)) dL_law_452 ⟨Nat.le_of_ble_eq_true rfl, Nat.le_of_ble_eq_true rfl⟩) (fun r_129 hwr_129 => ?_)
        refine lv_aload_n hx hb dL_law_455 rfl (lv_at hl 1 rfl) ?_
        refine lv_aload_n hx hb dL_law_456 rfl (lv_at hl 3 rfl) ?_
        refine lv_iload_n hx hb dL_law_457 rfl (lv_at hl 0 rfl) ?_
        refine lv_iconst (v := 1) hx hb dL_law_458 (by decide) ?_
        refine lv_iadd hx hb dL_law_459 ?_
        refine lv_topi (fun x_130 ex_130 => ?_)
        obtain rfl : x_130 = 1 := ex_130.trans (by decide)
        refine va_sld hx hb hX hbl hbA hS (vp_in_iff.mpr (by decide)) dL_law_460 ?_
        refine lv_aload_n hx hb dL_law_461 rfl (lv_at hl 3 rfl) ?_
        refine lv_iload_n hx hb dL_law_462 rfl (lv_at hl 0 rfl) ?_
        refine lv_iconst (v := 2) hx hb dL_law_463 (by decide) ?_
        refine lv_iadd hx hb dL_law_464 ?_
        refine lv_topi (fun x_131 ex_131 => ?_)
        obtain rfl : x_131 = 2 := ex_131.trans (by decide)
        refine va_sld hx hb hX hbl hbA hS (vp_in_iff.mpr (by decide)) dL_law_465 ?_
        refine lv_aload_n hx hb dL_law_466 rfl (lv_at hl 3 rfl) ?_
        refine lv_iload_n hx hb dL_law_467 rfl (lv_at hl 0 rfl) ?_
        refine lv_iconst (v := 3) hx hb dL_law_468 (by decide) ?_
        refine lv_iadd hx hb dL_law_469 ?_
        refine lv_topi (fun x_132 ex_132 => ?_)
        obtain rfl : x_132 = 3 := ex_132.trans (by decide)
        refine va_sld hx hb hX hbl hbA hS (vp_in_iff.mpr (by decide)) dL_law_470 ?_
        refine lv_if_eq (tgt := 478) hx hb dL_law_471 (by decide) (fun c_133 => ?_) (fun c_133 => ?_)
        · have zc_133 : ((xs (3 : Int32).toNatClampNeg)).toInt = (0 : Int) := zz_eq rfl (by decide) c_133
          refine lv_iconst (v := 0) hx hb dL_law_478 (by decide) ?_
          have hPc := hP.sub (ws' := [(g0, .inr (4, [.ref g1, .ref g2, .ref g3, .ref g4, .ref g5, .ref g6, .ref g7, .ref g8, .ref g9, .ref g10, .ref g11, .ref g12, .ref g13, .ref g14, .ref g15, .ref g16, .ref g17, .ref g18, .int 0, .ref g19, .int 0, .int 0, .int 0])), (g1, .inl (kG1, 4, .inl (fun _ => 0)))]) [5, 6] rfl
          have hKc := hK.sub (tys' := [(kG1, .boolean)]) [2] rfl
          refine vp_callSi (W.runV (As := [.int (xs (1 : Int32).toNatClampNeg), .int (xs (2 : Int32).toNatClampNeg), .int 0]) (rest := [.int r_129]) ⟨hx, hb, hml, hown, hts⟩ (kX5_write l dC dI g0 g1 g2 g3 g4 g5 g6 g7 g8 g9 g10 g11 g12 g13 g14 g15 g16 g17 g18 g19 kG1 (xs (1 : Int32).toNatClampNeg) (xs (2 : Int32).toNatClampNeg) 0) (cwV 3 hts gL_law_X5_write rfl rfl rfl (by decide +kernel) ⟨Nat.le_of_ble_eq_true rfl, Nat.le_of_ble_eq_true rfl⟩) ⟨fun a U g mk q => by obtain ⟨q0, qP, qK⟩ := q; exact ⟨q0, qP, va_K.moved (u := U) (U := U.calling g mk a) (Vm.Alike.refl U.vm) qK⟩, va_recv hKc hPc (ci := 4) (q0 := 0) rfl rfl, fun U hU hW => ⟨rfl, by rw [hU]; exact hPc, va_K.moved hW.alike hKc⟩⟩ rfl rfl hl.1 rfl (lv_room (Nat.le_of_ble_eq_true rfl)) dL_law_479 ⟨Nat.le_of_ble_eq_true rfl, Nat.le_of_ble_eq_true rfl⟩) (fun r_134 hwr_134 => ?_)
          refine lv_icmp_eq (tgt := 672) hx hb dL_law_482 (by decide) (fun _ => ?_) (fun c_135 => False.elim (by first | exact c_135 (hwr_129.trans hwr_134.symm) | exact c_135 (zz_same hwr_129 hwr_134)))
          refine lv_iinc (v := 5) (lv' := [(3, .int 5), (2, .ref g0), (1, .ref h0), (0, .ref b)]) hx hb dL_law_672 hl (k := 0) rfl (by decide) (by decide) rfl (fun ls hl => ?_)
          refine lv_goto (tgt := 18) hx hb dL_law_675 (by decide) ?_
          refine lv_iload_n hx hb dL_law_18 rfl (lv_at hl 0 rfl) ?_
          refine lv_aload_n hx hb dL_law_19 rfl (lv_at hl 3 rfl) ?_
          refine va_slen hx hb hX hbl hbA hS dL_law_20 ?_
          refine W.eq (g2 := F0 m 21 ls [.int 5, .int 5]) rfl ?_
          refine lv_iconst (v := 5) hx hb dL_law_21 (by decide) ?_
          refine lv_isub hx hb dL_law_22 ?_
          refine lv_topi (fun x_137 ex_137 => ?_)
          obtain rfl : x_137 = 0 := ex_137.trans (by decide)
          refine lv_icmp_gt (tgt := 678) hx hb dL_law_23 (by decide) (fun _ => ?_) (fun c_138 => False.elim (by revert c_138; decide))
          refine lv_iconst (v := 1) hx hb dL_law_678 (by decide) ?_
          refine va_forget (fun q hq => hS.2.2 q hq) ?_
          refine W.widen (k := 600000) (n := 7302250) (by omega) (by omega) ?_
          exact lw_ret hx hb hr hlocks dL_law_679
        · have zc_133 : ((xs (3 : Int32).toNatClampNeg)).toInt ≠ (0 : Int) := zz_neq rfl (by decide) c_133
          refine lv_iconst (v := 1) hx hb dL_law_474 (by decide) ?_
          refine lv_goto (tgt := 479) hx hb dL_law_475 (by decide) ?_
          have hPc := hP.sub (ws' := [(g0, .inr (4, [.ref g1, .ref g2, .ref g3, .ref g4, .ref g5, .ref g6, .ref g7, .ref g8, .ref g9, .ref g10, .ref g11, .ref g12, .ref g13, .ref g14, .ref g15, .ref g16, .ref g17, .ref g18, .int 0, .ref g19, .int 0, .int 0, .int 0])), (g1, .inl (kG1, 4, .inl (fun _ => 0)))]) [5, 6] rfl
          have hKc := hK.sub (tys' := [(kG1, .boolean)]) [2] rfl
          refine vp_callSi (W.runV (As := [.int (xs (1 : Int32).toNatClampNeg), .int (xs (2 : Int32).toNatClampNeg), .int 1]) (rest := [.int r_129]) ⟨hx, hb, hml, hown, hts⟩ (kX5_write l dC dI g0 g1 g2 g3 g4 g5 g6 g7 g8 g9 g10 g11 g12 g13 g14 g15 g16 g17 g18 g19 kG1 (xs (1 : Int32).toNatClampNeg) (xs (2 : Int32).toNatClampNeg) 1) (cwV 3 hts gL_law_X5_write rfl rfl rfl (by decide +kernel) ⟨Nat.le_of_ble_eq_true rfl, Nat.le_of_ble_eq_true rfl⟩) ⟨fun a U g mk q => by obtain ⟨q0, qP, qK⟩ := q; exact ⟨q0, qP, va_K.moved (u := U) (U := U.calling g mk a) (Vm.Alike.refl U.vm) qK⟩, va_recv hKc hPc (ci := 4) (q0 := 0) rfl rfl, fun U hU hW => ⟨rfl, by rw [hU]; exact hPc, va_K.moved hW.alike hKc⟩⟩ rfl rfl hl.1 rfl (lv_room (Nat.le_of_ble_eq_true rfl)) dL_law_479 ⟨Nat.le_of_ble_eq_true rfl, Nat.le_of_ble_eq_true rfl⟩) (fun r_139 hwr_139 => ?_)
          refine lv_icmp_eq (tgt := 672) hx hb dL_law_482 (by decide) (fun _ => ?_) (fun c_140 => False.elim (by first | exact c_140 (hwr_129.trans hwr_139.symm) | exact c_140 (zz_same hwr_129 hwr_139)))
          refine lv_iinc (v := 5) (lv' := [(3, .int 5), (2, .ref g0), (1, .ref h0), (0, .ref b)]) hx hb dL_law_672 hl (k := 0) rfl (by decide) (by decide) rfl (fun ls hl => ?_)
          refine lv_goto (tgt := 18) hx hb dL_law_675 (by decide) ?_
          refine lv_iload_n hx hb dL_law_18 rfl (lv_at hl 0 rfl) ?_
          refine lv_aload_n hx hb dL_law_19 rfl (lv_at hl 3 rfl) ?_
          refine va_slen hx hb hX hbl hbA hS dL_law_20 ?_
          refine W.eq (g2 := F0 m 21 ls [.int 5, .int 5]) rfl ?_
          refine lv_iconst (v := 5) hx hb dL_law_21 (by decide) ?_
          refine lv_isub hx hb dL_law_22 ?_
          refine lv_topi (fun x_142 ex_142 => ?_)
          obtain rfl : x_142 = 0 := ex_142.trans (by decide)
          refine lv_icmp_gt (tgt := 678) hx hb dL_law_23 (by decide) (fun _ => ?_) (fun c_143 => False.elim (by revert c_143; decide))
          refine lv_iconst (v := 1) hx hb dL_law_678 (by decide) ?_
          refine va_forget (fun q hq => hS.2.2 q hq) ?_
          refine W.widen (k := 600000) (n := 7302250) (by omega) (by omega) ?_
          exact lw_ret hx hb hr hlocks dL_law_679
    · refine lv_tableIn (tgt := 487) hx hb dL_law_32 (by omega) (by omega) (by rw [hk]; rfl) (by decide) ?_
      refine lv_aload_n hx hb dL_law_487 rfl (lv_at hl 2 rfl) ?_
      refine lv_aload_n hx hb dL_law_488 rfl (lv_at hl 3 rfl) ?_
      refine lv_iload_n hx hb dL_law_489 rfl (lv_at hl 0 rfl) ?_
      refine lv_iconst (v := 1) hx hb dL_law_490 (by decide) ?_
      refine lv_iadd hx hb dL_law_491 ?_
      refine lv_topi (fun x_144 ex_144 => ?_)
      obtain rfl : x_144 = 1 := ex_144.trans (by decide)
      refine va_sld hx hb hX hbl hbA hS (vp_in_iff.mpr (by decide)) dL_law_492 ?_
      refine lv_aload_n hx hb dL_law_493 rfl (lv_at hl 3 rfl) ?_
      refine lv_iload_n hx hb dL_law_494 rfl (lv_at hl 0 rfl) ?_
      refine lv_iconst (v := 2) hx hb dL_law_495 (by decide) ?_
      refine lv_iadd hx hb dL_law_496 ?_
      refine lv_topi (fun x_145 ex_145 => ?_)
      obtain rfl : x_145 = 2 := ex_145.trans (by decide)
      refine va_sld hx hb hX hbl hbA hS (vp_in_iff.mpr (by decide)) dL_law_497 ?_
      refine lv_aload_n hx hb dL_law_498 rfl (lv_at hl 3 rfl) ?_
      refine lv_iload_n hx hb dL_law_499 rfl (lv_at hl 0 rfl) ?_
      refine lv_iconst (v := 3) hx hb dL_law_500 (by decide) ?_
      refine lv_iadd hx hb dL_law_501 ?_
      refine lv_topi (fun x_146 ex_146 => ?_)
      obtain rfl : x_146 = 3 := ex_146.trans (by decide)
      refine va_sld hx hb hX hbl hbA hS (vp_in_iff.mpr (by decide)) dL_law_502 ?_
      refine lv_aload_n hx hb dL_law_503 rfl (lv_at hl 3 rfl) ?_
      refine lv_iload_n hx hb dL_law_504 rfl (lv_at hl 0 rfl) ?_
      refine lv_iconst (v := 4) hx hb dL_law_505 (by decide) ?_
      refine lv_iadd hx hb dL_law_506 ?_
      refine lv_topi (fun x_147 ex_147 => ?_)
      obtain rfl : x_147 = 4 := ex_147.trans (by decide)
      refine va_sld hx hb hX hbl hbA hS (vp_in_iff.mpr (by decide)) dL_law_507 ?_
      have hPc := hP.sub (ws' := [(h0, .inr (3, [.ref h1, .ref h2, .ref h4])), (h1, .inl (kS, 4, .inr (.inr (.inr (.inr (fun _ => none))))))]) [0, 1] rfl
      have hKc := hK.sub (tys' := [(kS, .object "SignForms$Stream")]) [0] rfl
      refine vp_callSi (W.runV (As := [.int (xs (1 : Int32).toNatClampNeg), .int (xs (2 : Int32).toNatClampNeg), .int (xs (3 : Int32).toNatClampNeg), .int (xs (4 : Int32).toNatClampNeg)]) (rest := []) ⟨hx, hb, hml, hown, hts⟩ (kX4_size l dC dI h0 h1 h2 h4 kS (xs (1 : Int32).toNatClampNeg) (xs (2 : Int32).toNatClampNeg) (xs (3 : Int32).toNatClampNeg) (xs (4 : Int32).toNatClampNeg)) (cwV 4 hts gL_law_X4_size rfl rfl rfl (by decide +kernel) ⟨Nat.le_of_ble_eq_true rfl, Nat.le_of_ble_eq_true rfl⟩) ⟨fun a U g mk q => by obtain ⟨q0, qP, qK⟩ := q; exact ⟨q0, qP, va_K.moved (u := U) (U := U.calling g mk a) (Vm.Alike.refl U.vm) qK⟩, va_recv hKc hPc (ci := 3) (q0 := 0) rfl rfl, fun U hU hW => ⟨rfl, by rw [hU]; exact hPc, va_K.moved hW.alike hKc⟩⟩ rfl rfl hl.1 rfl (lv_room (Nat.le_of_ble_eq_true rfl)) dL_law_508 ⟨Nat.le_of_ble_eq_true rfl, Nat.le_of_ble_eq_true rfl⟩) (fun r_148 hwr_148 => ?_)
      refine lv_aload_n hx hb dL_law_511 rfl (lv_at hl 1 rfl) ?_
      refine lv_aload_n hx hb dL_law_512 rfl (lv_at hl 3 rfl) ?_
      refine lv_iload_n hx hb dL_law_513 rfl (lv_at hl 0 rfl) ?_
      refine lv_iconst (v := 1) hx hb dL_law_514 (by decide) ?_
      refine lv_iadd hx hb dL_law_515 ?_
      refine lv_topi (fun x_149 ex_149 => ?_)
      obtain rfl : x_149 = 1 := ex_149.trans (by decide)
      refine va_sld hx hb hX hbl hbA hS (vp_in_iff.mpr (by decide)) dL_law_516 ?_
      refine lv_aload_n hx hb dL_law_517 rfl (lv_at hl 3 rfl) ?_
      refine lv_iload_n hx hb dL_law_518 rfl (lv_at hl 0 rfl) ?_
      refine lv_iconst (v := 2) hx hb dL_law_519 (by decide) ?_
      refine lv_iadd hx hb dL_law_520 ?_
      refine lv_topi (fun x_150 ex_150 => ?_)
      obtain rfl : x_150 = 2 := ex_150.trans (by decide)
      refine va_sld hx hb hX hbl hbA hS (vp_in_iff.mpr (by decide)) dL_law_521 ?_
      refine lv_aload_n hx hb dL_law_522 rfl (lv_at hl 3 rfl) ?_
      refine lv_iload_n hx hb dL_law_523 rfl (lv_at hl 0 rfl) ?_
      refine lv_iconst (v := 3) hx hb dL_law_524 (by decide) ?_
      refine lv_iadd hx hb dL_law_525 ?_
      refine lv_topi (fun x_151 ex_151 => ?_)
      obtain rfl : x_151 = 3 := ex_151.trans (by decide)
      refine va_sld hx hb hX hbl hbA hS (vp_in_iff.mpr (by decide)) dL_law_526 ?_
      refine lv_aload_n hx hb dL_law_527 rfl (lv_at hl 3 rfl) ?_
      refine lv_iload_n hx hb dL_law_528 rfl (lv_at hl 0 rfl) ?_
      refine lv_iconst (v := 4) hx hb dL_law_529 (by decide) ?_
      refine lv_iadd hx hb dL_law_530 ?_
      refine lv_topi (fun x_152 ex_152 => ?_)
      obtain rfl : x_152 = 4 := ex_152.trans (by decide)
      refine va_sld hx hb hX hbl hbA hS (vp_in_iff.mpr (by decide)) dL_law_531 ?_
      have hPc := hP.sub (ws' := [(g0, .inr (4, [.ref g1, .ref g2, .ref g3, .ref g4, .ref g5, .ref g6, .ref g7, .ref g8, .ref g9, .ref g10, .ref g11, .ref g12, .ref g13, .ref g14, .ref g15, .ref g16, .ref g17, .ref g18, .int 0, .ref g19, .int 0, .int 0, .int 0])), (g1, .inl (kG1, 4, .inl (fun _ => 0)))]) [5, 6] rfl
      have hKc := hK.sub (tys' := [(kG1, .boolean)]) [2] rfl
      refine vp_callSi (W.runV (As := [.int (xs (1 : Int32).toNatClampNeg), .int (xs (2 : Int32).toNatClampNeg), .int (xs (3 : Int32).toNatClampNeg), .int (xs (4 : Int32).toNatClampNeg)]) (rest := [.int r_148]) ⟨hx, hb, hml, hown, hts⟩ (kX5_size l dC dI g0 g1 g2 g3 g4 g5 g6 g7 g8 g9 g10 g11 g12 g13 g14 g15 g16 g17 g18 g19 kG1 (xs (1 : Int32).toNatClampNeg) (xs (2 : Int32).toNatClampNeg) (xs (3 : Int32).toNatClampNeg) (xs (4 : Int32).toNatClampNeg)) (cwV 4 hts gL_law_X5_size rfl rfl rfl (by decide +kernel) ⟨Nat.le_of_ble_eq_true rfl, Nat.le_of_ble_eq_true rfl⟩) ⟨fun a U g mk q => by obtain ⟨q0, qP, qK⟩ := q; exact ⟨q0, qP, va_K.moved (u := U) (U := U.calling g mk a) (Vm.Alike.refl U.vm) qK⟩, va_recv hKc hPc (ci := 4) (q0 := 0) rfl rfl, fun U hU hW => ⟨rfl, by rw [hU]; exact hPc, va_K.moved hW.alike hKc⟩⟩ rfl rfl hl.1 rfl (lv_room (Nat.le_of_ble_eq_true rfl)) dL_law_532 ⟨Nat.le_of_ble_eq_true rfl, Nat.le_of_ble_eq_true rfl⟩) (fun r_153 hwr_153 => ?_)
      refine lv_icmp_eq (tgt := 672) hx hb dL_law_535 (by decide) (fun _ => ?_) (fun c_154 => False.elim (by first | exact c_154 (hwr_148.trans hwr_153.symm) | exact c_154 (zz_same hwr_148 hwr_153)))
      refine lv_iinc (v := 5) (lv' := [(3, .int 5), (2, .ref g0), (1, .ref h0), (0, .ref b)]) hx hb dL_law_672 hl (k := 0) rfl (by decide) (by decide) rfl (fun ls hl => ?_)
      refine lv_goto (tgt := 18) hx hb dL_law_675 (by decide) ?_
      refine lv_iload_n hx hb dL_law_18 rfl (lv_at hl 0 rfl) ?_
      refine lv_aload_n hx hb dL_law_19 rfl (lv_at hl 3 rfl) ?_
      refine va_slen hx hb hX hbl hbA hS dL_law_20 ?_
      refine W.eq (g2 := F0 m 21 ls [.int 5, .int 5]) rfl ?_
      refine lv_iconst (v := 5) hx hb dL_law_21 (by decide) ?_
      refine lv_isub hx hb dL_law_22 ?_
      refine lv_topi (fun x_156 ex_156 => ?_)
      obtain rfl : x_156 = 0 := ex_156.trans (by decide)
      refine lv_icmp_gt (tgt := 678) hx hb dL_law_23 (by decide) (fun _ => ?_) (fun c_157 => False.elim (by revert c_157; decide))
      refine lv_iconst (v := 1) hx hb dL_law_678 (by decide) ?_
      refine va_forget (fun q hq => hS.2.2 q hq) ?_
      refine W.widen (k := 600000) (n := 7302250) (by omega) (by omega) ?_
      exact lw_ret hx hb hr hlocks dL_law_679
    · refine lv_tableIn (tgt := 540) hx hb dL_law_32 (by omega) (by omega) (by rw [hk]; rfl) (by decide) ?_
      refine lv_aload_n hx hb dL_law_540 rfl (lv_at hl 2 rfl) ?_
      refine lv_aload_n hx hb dL_law_541 rfl (lv_at hl 3 rfl) ?_
      refine lv_iload_n hx hb dL_law_542 rfl (lv_at hl 0 rfl) ?_
      refine lv_iconst (v := 1) hx hb dL_law_543 (by decide) ?_
      refine lv_iadd hx hb dL_law_544 ?_
      refine lv_topi (fun x_158 ex_158 => ?_)
      obtain rfl : x_158 = 1 := ex_158.trans (by decide)
      refine va_sld hx hb hX hbl hbA hS (vp_in_iff.mpr (by decide)) dL_law_545 ?_
      have hPc := hP.sub (ws' := [(h0, .inr (3, [.ref h1, .ref h2, .ref h4])), (h2, .inr (0, [.ref h3, .int 0]))]) [0, 2] rfl
      have hKc := hK.sub (tys' := []) [] rfl
      refine vp_callSi (W.runV (As := [.int (xs (1 : Int32).toNatClampNeg)]) (rest := []) ⟨hx, hb, hml, hown, hts⟩ (kX4_out l dC dI h0 h1 h2 h3 h4 (xs (1 : Int32).toNatClampNeg)) (cwV 1 hts gL_law_X4_out rfl rfl rfl (by decide +kernel) ⟨Nat.le_of_ble_eq_true rfl, Nat.le_of_ble_eq_true rfl⟩) ⟨fun a U g mk q => by obtain ⟨q0, qP, qK⟩ := q; exact ⟨q0, qP, va_K.moved (u := U) (U := U.calling g mk a) (Vm.Alike.refl U.vm) qK⟩, va_recv hKc hPc (ci := 3) (q0 := 0) rfl rfl, fun U hU hW => ⟨rfl, by rw [hU]; exact hPc, va_K.moved hW.alike hKc⟩⟩ rfl rfl hl.1 rfl (lv_room (Nat.le_of_ble_eq_true rfl)) dL_law_546 ⟨Nat.le_of_ble_eq_true rfl, Nat.le_of_ble_eq_true rfl⟩) (fun r_159 hwr_159 => ?_)
      refine lv_aload_n hx hb dL_law_549 rfl (lv_at hl 1 rfl) ?_
      refine lv_aload_n hx hb dL_law_550 rfl (lv_at hl 3 rfl) ?_
      refine lv_iload_n hx hb dL_law_551 rfl (lv_at hl 0 rfl) ?_
      refine lv_iconst (v := 1) hx hb dL_law_552 (by decide) ?_
      refine lv_iadd hx hb dL_law_553 ?_
      refine lv_topi (fun x_160 ex_160 => ?_)
      obtain rfl : x_160 = 1 := ex_160.trans (by decide)
      refine va_sld hx hb hX hbl hbA hS (vp_in_iff.mpr (by decide)) dL_law_554 ?_
      have hPc := hP.sub (ws' := [(g0, .inr (4, [.ref g1, .ref g2, .ref g3, .ref g4, .ref g5, .ref g6, .ref g7, .ref g8, .ref g9, .ref g10, .ref g11, .ref g12, .ref g13, .ref g14, .ref g15, .ref g16, .ref g17, .ref g18, .int 0, .ref g19, .int 0, .int 0, .int 0]))]) [5] rfl
      have hKc := hK.sub (tys' := []) [] rfl
      refine vp_callSi (W.runV (As := [.int (xs (1 : Int32).toNatClampNeg)]) (rest := [.int r_159]) ⟨hx, hb, hml, hown, hts⟩ (kX5_out l dC dI g0 g1 g2 g3 g4 g5 g6 g7 g8 g9 g10 g11 g12 g13 g14 g15 g16 g17 g18 g19 (xs (1 : Int32).toNatClampNeg)) (cwV 1 hts gL_law_X5_out rfl rfl rfl (by decide +kernel) ⟨Nat.le_of_ble_eq_true rfl, Nat.le_of_ble_eq_true rfl⟩) ⟨fun a U g mk q => by obtain ⟨q0, qP, qK⟩ := q; exact ⟨q0, qP, va_K.moved (u := U) (U := U.calling g mk a) (Vm.Alike.refl U.vm) qK⟩, va_recv hKc hPc (ci := 4) (q0 := 0) rfl rfl, fun U hU hW => ⟨rfl, by rw [hU]; exact hPc, va_K.moved hW.alike hKc⟩⟩ rfl rfl hl.1 rfl (lv_room (Nat.le_of_ble_eq_true rfl)) dL_law_555 ⟨Nat.le_of_ble_eq_true rfl, Nat.le_of_ble_eq_true rfl⟩) (fun r_161 hwr_161 => ?_)
      refine lv_icmp_eq (tgt := 672) hx hb dL_law_558 (by decide) (fun _ => ?_) (fun c_162 => False.elim (by first | exact c_162 (hwr_159.trans hwr_161.symm) | exact c_162 (zz_same hwr_159 hwr_161)))
      refine lv_iinc (v := 5) (lv' := [(3, .int 5), (2, .ref g0), (1, .ref h0), (0, .ref b)]) hx hb dL_law_672 hl (k := 0) rfl (by decide) (by decide) rfl (fun ls hl => ?_)
      refine lv_goto (tgt := 18) hx hb dL_law_675 (by decide) ?_
      refine lv_iload_n hx hb dL_law_18 rfl (lv_at hl 0 rfl) ?_
      refine lv_aload_n hx hb dL_law_19 rfl (lv_at hl 3 rfl) ?_
      refine va_slen hx hb hX hbl hbA hS dL_law_20 ?_
      refine W.eq (g2 := F0 m 21 ls [.int 5, .int 5]) rfl ?_
      refine lv_iconst (v := 5) hx hb dL_law_21 (by decide) ?_
      refine lv_isub hx hb dL_law_22 ?_
      refine lv_topi (fun x_164 ex_164 => ?_)
      obtain rfl : x_164 = 0 := ex_164.trans (by decide)
      refine lv_icmp_gt (tgt := 678) hx hb dL_law_23 (by decide) (fun _ => ?_) (fun c_165 => False.elim (by revert c_165; decide))
      refine lv_iconst (v := 1) hx hb dL_law_678 (by decide) ?_
      refine va_forget (fun q hq => hS.2.2 q hq) ?_
      refine W.widen (k := 600000) (n := 7302250) (by omega) (by omega) ?_
      exact lw_ret hx hb hr hlocks dL_law_679
    · refine lv_tableIn (tgt := 563) hx hb dL_law_32 (by omega) (by omega) (by rw [hk]; rfl) (by decide) ?_
      refine lv_aload_n hx hb dL_law_563 rfl (lv_at hl 2 rfl) ?_
      refine lv_aload_n hx hb dL_law_564 rfl (lv_at hl 3 rfl) ?_
      refine lv_iload_n hx hb dL_law_565 rfl (lv_at hl 0 rfl) ?_
      refine lv_iconst (v := 1) hx hb dL_law_566 (by decide) ?_
      refine lv_iadd hx hb dL_law_567 ?_
      refine lv_topi (fun x_166 ex_166 => ?_)
      obtain rfl : x_166 = 1 := ex_166.trans (by decide)
      refine va_sld hx hb hX hbl hbA hS (vp_in_iff.mpr (by decide)) dL_law_568 ?_
      have hPc := hP.sub (ws' := [(h0, .inr (3, [.ref h1, .ref h2, .ref h4])), (h2, .inr (0, [.ref h3, .int 0]))]) [0, 2] rfl
      have hKc := hK.sub (tys' := []) [] rfl
      refine vp_callSi (W.runV (As := [.int (xs (1 : Int32).toNatClampNeg)]) (rest := []) ⟨hx, hb, hml, hown, hts⟩ (kX4_check l dC dI h0 h1 h2 h3 h4 (xs (1 : Int32).toNatClampNeg)) (cwV 1 hts gL_law_X4_check rfl rfl rfl (by decide +kernel) ⟨Nat.le_of_ble_eq_true rfl, Nat.le_of_ble_eq_true rfl⟩) ⟨fun a U g mk q => by obtain ⟨q0, qP, qK⟩ := q; exact ⟨q0, qP, va_K.moved (u := U) (U := U.calling g mk a) (Vm.Alike.refl U.vm) qK⟩, va_recv hKc hPc (ci := 3) (q0 := 0) rfl rfl, fun U hU hW => ⟨rfl, by rw [hU]; exact hPc, va_K.moved hW.alike hKc⟩⟩ rfl rfl hl.1 rfl (lv_room (Nat.le_of_ble_eq_true rfl)) dL_law_569 ⟨Nat.le_of_ble_eq_true rfl, Nat.le_of_ble_eq_true rfl⟩) (fun r_167 hwr_167 => ?_)
      refine lv_aload_n hx hb dL_law_572 rfl (lv_at hl 1 rfl) ?_
      refine lv_aload_n hx hb dL_law_573 rfl (lv_at hl 3 rfl) ?_
      refine lv_iload_n hx hb dL_law_574 rfl (lv_at hl 0 rfl) ?_
      refine lv_iconst (v := 1) hx hb dL_law_575 (by decide) ?_
      refine lv_iadd hx hb dL_law_576 ?_
      refine lv_topi (fun x_168 ex_168 => ?_)
      obtain rfl : x_168 = 1 := ex_168.trans (by decide)
      refine va_sld hx hb hX hbl hbA hS (vp_in_iff.mpr (by decide)) dL_law_577 ?_
      have hPc := hP.sub (ws' := [(g0, .inr (4, [.ref g1, .ref g2, .ref g3, .ref g4, .ref g5, .ref g6, .ref g7, .ref g8, .ref g9, .ref g10, .ref g11, .ref g12, .ref g13, .ref g14, .ref g15, .ref g16, .ref g17, .ref g18, .int 0, .ref g19, .int 0, .int 0, .int 0]))]) [5] rfl
      have hKc := hK.sub (tys' := []) [] rfl
      refine vp_callSi (W.runV (As := [.int (xs (1 : Int32).toNatClampNeg)]) (rest := [.int r_167]) ⟨hx, hb, hml, hown, hts⟩ (kX5_check l dC dI g0 g1 g2 g3 g4 g5 g6 g7 g8 g9 g10 g11 g12 g13 g14 g15 g16 g17 g18 g19 (xs (1 : Int32).toNatClampNeg)) (cwV 1 hts gL_law_X5_check rfl rfl rfl (by decide +kernel) ⟨Nat.le_of_ble_eq_true rfl, Nat.le_of_ble_eq_true rfl⟩) ⟨fun a U g mk q => by obtain ⟨q0, qP, qK⟩ := q; exact ⟨q0, qP, va_K.moved (u := U) (U := U.calling g mk a) (Vm.Alike.refl U.vm) qK⟩, va_recv hKc hPc (ci := 4) (q0 := 0) rfl rfl, fun U hU hW => ⟨rfl, by rw [hU]; exact hPc, va_K.moved hW.alike hKc⟩⟩ rfl rfl hl.1 rfl (lv_room (Nat.le_of_ble_eq_true rfl)) dL_law_578 ⟨Nat.le_of_ble_eq_true rfl, Nat.le_of_ble_eq_true rfl⟩) (fun r_169 hwr_169 => ?_)
      refine lv_icmp_eq (tgt := 672) hx hb dL_law_581 (by decide) (fun _ => ?_) (fun c_170 => False.elim (by first | exact c_170 (hwr_167.trans hwr_169.symm) | exact c_170 (zz_same hwr_167 hwr_169)))
      refine lv_iinc (v := 5) (lv' := [(3, .int 5), (2, .ref g0), (1, .ref h0), (0, .ref b)]) hx hb dL_law_672 hl (k := 0) rfl (by decide) (by decide) rfl (fun ls hl => ?_)
      refine lv_goto (tgt := 18) hx hb dL_law_675 (by decide) ?_
      refine lv_iload_n hx hb dL_law_18 rfl (lv_at hl 0 rfl) ?_
      refine lv_aload_n hx hb dL_law_19 rfl (lv_at hl 3 rfl) ?_
      refine va_slen hx hb hX hbl hbA hS dL_law_20 ?_
      refine W.eq (g2 := F0 m 21 ls [.int 5, .int 5]) rfl ?_
      refine lv_iconst (v := 5) hx hb dL_law_21 (by decide) ?_
      refine lv_isub hx hb dL_law_22 ?_
      refine lv_topi (fun x_172 ex_172 => ?_)
      obtain rfl : x_172 = 0 := ex_172.trans (by decide)
      refine lv_icmp_gt (tgt := 678) hx hb dL_law_23 (by decide) (fun _ => ?_) (fun c_173 => False.elim (by revert c_173; decide))
      refine lv_iconst (v := 1) hx hb dL_law_678 (by decide) ?_
      refine va_forget (fun q hq => hS.2.2 q hq) ?_
      refine W.widen (k := 600000) (n := 7302250) (by omega) (by omega) ?_
      exact lw_ret hx hb hr hlocks dL_law_679
    · refine lv_tableIn (tgt := 586) hx hb dL_law_32 (by omega) (by omega) (by rw [hk]; rfl) (by decide) ?_
      refine lv_aload_n hx hb dL_law_586 rfl (lv_at hl 2 rfl) ?_
      refine lv_aload_n hx hb dL_law_587 rfl (lv_at hl 3 rfl) ?_
      refine lv_iload_n hx hb dL_law_588 rfl (lv_at hl 0 rfl) ?_
      refine lv_iconst (v := 1) hx hb dL_law_589 (by decide) ?_
      refine lv_iadd hx hb dL_law_590 ?_
      refine lv_topi (fun x_174 ex_174 => ?_)
      obtain rfl : x_174 = 1 := ex_174.trans (by decide)
      refine va_sld hx hb hX hbl hbA hS (vp_in_iff.mpr (by decide)) dL_law_591 ?_
      refine lv_aload_n hx hb dL_law_592 rfl (lv_at hl 3 rfl) ?_
      refine lv_iload_n hx hb dL_law_593 rfl (lv_at hl 0 rfl) ?_
      refine lv_iconst (v := 2) hx hb dL_law_594 (by decide) ?_
      refine lv_iadd hx hb dL_law_595 ?_
      refine lv_topi (fun x_175 ex_175 => ?_)
      obtain rfl : x_175 = 2 := ex_175.trans (by decide)
      refine va_sld hx hb hX hbl hbA hS (vp_in_iff.mpr (by decide)) dL_law_596 ?_
      refine lv_aload_n hx hb dL_law_597 rfl (lv_at hl 3 rfl) ?_
      refine lv_iload_n hx hb dL_law_598 rfl (lv_at hl 0 rfl) ?_
      refine lv_iconst (v := 3) hx hb dL_law_599 (by decide) ?_
      refine lv_iadd hx hb dL_law_600 ?_
      refine lv_topi (fun x_176 ex_176 => ?_)
      obtain rfl : x_176 = 3 := ex_176.trans (by decide)
      refine va_sld hx hb hX hbl hbA hS (vp_in_iff.mpr (by decide)) dL_law_601 ?_
      have hPc := hP.sub (ws' := [(h0, .inr (3, [.ref h1, .ref h2, .ref h4])), (h1, .inl (kS, 4, .inr (.inr (.inr (.inr (fun _ => none))))))]) [0, 1] rfl
      have hKc := hK.sub (tys' := [(kS, .object "SignForms$Stream")]) [0] rfl
      refine vp_callSi (W.runV (As := [.int (xs (1 : Int32).toNatClampNeg), .int (xs (2 : Int32).toNatClampNeg), .int (xs (3 : Int32).toNatClampNeg)]) (rest := []) ⟨hx, hb, hml, hown, hts⟩ (kX4_order l dC dI h0 h1 h2 h4 kS (xs (1 : Int32).toNatClampNeg) (xs (2 : Int32).toNatClampNeg) (xs (3 : Int32).toNatClampNeg)) (cwV 3 hts gL_law_X4_order rfl rfl rfl (by decide +kernel) ⟨Nat.le_of_ble_eq_true rfl, Nat.le_of_ble_eq_true rfl⟩) ⟨fun a U g mk q => by obtain ⟨q0, qP, qK⟩ := q; exact ⟨q0, qP, va_K.moved (u := U) (U := U.calling g mk a) (Vm.Alike.refl U.vm) qK⟩, va_recv hKc hPc (ci := 3) (q0 := 0) rfl rfl, fun U hU hW => ⟨rfl, by rw [hU]; exact hPc, va_K.moved hW.alike hKc⟩⟩ rfl rfl hl.1 rfl (lv_room (Nat.le_of_ble_eq_true rfl)) dL_law_602 ⟨Nat.le_of_ble_eq_true rfl, Nat.le_of_ble_eq_true rfl⟩) (fun r_177 hwr_177 => ?_)
      refine lv_aload_n hx hb dL_law_605 rfl (lv_at hl 1 rfl) ?_
      refine lv_aload_n hx hb dL_law_606 rfl (lv_at hl 3 rfl) ?_
      refine lv_iload_n hx hb dL_law_607 rfl (lv_at hl 0 rfl) ?_
      refine lv_iconst (v := 1) hx hb dL_law_608 (by decide) ?_
      refine lv_iadd hx hb dL_law_609 ?_
      refine lv_topi (fun x_178 ex_178 => ?_)
      obtain rfl : x_178 = 1 := ex_178.trans (by decide)
      refine va_sld hx hb hX hbl hbA hS (vp_in_iff.mpr (by decide)) dL_law_610 ?_
      refine lv_aload_n hx hb dL_law_611 rfl (lv_at hl 3 rfl) ?_
      refine lv_iload_n hx hb dL_law_612 rfl (lv_at hl 0 rfl) ?_
      refine lv_iconst (v := 2) hx hb dL_law_613 (by decide) ?_
      refine lv_iadd hx hb dL_law_614 ?_
      refine lv_topi (fun x_179 ex_179 => ?_)
      obtain rfl : x_179 = 2 := ex_179.trans (by decide)
      refine va_sld hx hb hX hbl hbA hS (vp_in_iff.mpr (by decide)) dL_law_615 ?_
      refine lv_aload_n hx hb dL_law_616 rfl (lv_at hl 3 rfl) ?_
      refine lv_iload_n hx hb dL_law_617 rfl (lv_at hl 0 rfl) ?_
      refine lv_iconst (v := 3) hx hb dL_law_618 (by decide) ?_
      refine lv_iadd hx hb dL_law_619 ?_
      refine lv_topi (fun x_180 ex_180 => ?_)
      obtain rfl : x_180 = 3 := ex_180.trans (by decide)
      refine va_sld hx hb hX hbl hbA hS (vp_in_iff.mpr (by decide)) dL_law_620 ?_
      have hPc := hP.sub (ws' := [(g0, .inr (4, [.ref g1, .ref g2, .ref g3, .ref g4, .ref g5, .ref g6, .ref g7, .ref g8, .ref g9, .ref g10, .ref g11, .ref g12, .ref g13, .ref g14, .ref g15, .ref g16, .ref g17, .ref g18, .int 0, .ref g19, .int 0, .int 0, .int 0])), (g1, .inl (kG1, 4, .inl (fun _ => 0)))]) [5, 6] rfl
      have hKc := hK.sub (tys' := [(kG1, .boolean)]) [2] rfl
      refine vp_callSi (W.runV (As := [.int (xs (1 : Int32).toNatClampNeg), .int (xs (2 : Int32).toNatClampNeg), .int (xs (3 : Int32).toNatClampNeg)]) (rest := [.int r_177]) ⟨hx, hb, hml, hown, hts⟩ (kX5_order l dC dI g0 g1 g2 g3 g4 g5 g6 g7 g8 g9 g10 g11 g12 g13 g14 g15 g16 g17 g18 g19 kG1 (xs (1 : Int32).toNatClampNeg) (xs (2 : Int32).toNatClampNeg) (xs (3 : Int32).toNatClampNeg)) (cwV 3 hts gL_law_X5_order rfl rfl rfl (by decide +kernel) ⟨Nat.le_of_ble_eq_true rfl, Nat.le_of_ble_eq_true rfl⟩) ⟨fun a U g mk q => by obtain ⟨q0, qP, qK⟩ := q; exact ⟨q0, qP, va_K.moved (u := U) (U := U.calling g mk a) (Vm.Alike.refl U.vm) qK⟩, va_recv hKc hPc (ci := 4) (q0 := 0) rfl rfl, fun U hU hW => ⟨rfl, by rw [hU]; exact hPc, va_K.moved hW.alike hKc⟩⟩ rfl rfl hl.1 rfl (lv_room (Nat.le_of_ble_eq_true rfl)) dL_law_621 ⟨Nat.le_of_ble_eq_true rfl, Nat.le_of_ble_eq_true rfl⟩) (fun r_181 hwr_181 => ?_)
      refine lv_icmp_eq (tgt := 672) hx hb dL_law_624 (by decide) (fun _ => ?_) (fun c_182 => False.elim (by first | exact c_182 (hwr_177.trans hwr_181.symm) | exact c_182 (zz_same hwr_177 hwr_181)))
      refine lv_iinc (v := 5) (lv' := [(3, .int 5), (2, .ref g0), (1, .ref h0), (0, .ref b)]) hx hb dL_law_672 hl (k := 0) rfl (by decide) (by decide) rfl (fun ls hl => ?_)
      refine lv_goto (tgt := 18) hx hb dL_law_675 (by decide) ?_
      refine lv_iload_n hx hb dL_law_18 rfl (lv_at hl 0 rfl) ?_
      refine lv_aload_n hx hb dL_law_19 rfl (lv_at hl 3 rfl) ?_
      refine va_slen hx hb hX hbl hbA hS dL_law_20 ?_
      refine W.eq (g2 := F0 m 21 ls [.int 5, .int 5]) rfl ?_
      refine lv_iconst (v := 5) hx hb dL_law_21 (by decide) ?_
      refine lv_isub hx hb dL_law_22 ?_
      refine lv_topi (fun x_184 ex_184 => ?_)
      obtain rfl : x_184 = 0 := ex_184.trans (by decide)
      refine lv_icmp_gt (tgt := 678) hx hb dL_law_23 (by decide) (fun _ => ?_) (fun c_185 => False.elim (by revert c_185; decide))
      refine lv_iconst (v := 1) hx hb dL_law_678 (by decide) ?_
      refine va_forget (fun q hq => hS.2.2 q hq) ?_
      refine W.widen (k := 600000) (n := 7302250) (by omega) (by omega) ?_
      exact lw_ret hx hb hr hlocks dL_law_679
    · refine lv_tableIn (tgt := 629) hx hb dL_law_32 (by omega) (by omega) (by rw [hk]; rfl) (by decide) ?_
      refine lv_aload_n hx hb dL_law_629 rfl (lv_at hl 2 rfl) ?_
      refine lv_aload_n hx hb dL_law_630 rfl (lv_at hl 3 rfl) ?_
      refine lv_iload_n hx hb dL_law_631 rfl (lv_at hl 0 rfl) ?_
      refine lv_iconst (v := 1) hx hb dL_law_632 (by decide) ?_
      refine lv_iadd hx hb dL_law_633 ?_
      refine lv_topi (fun x_186 ex_186 => ?_)
      obtain rfl : x_186 = 1 := ex_186.trans (by decide)
      refine va_sld hx hb hX hbl hbA hS (vp_in_iff.mpr (by decide)) dL_law_634 ?_
      refine lv_aload_n hx hb dL_law_635 rfl (lv_at hl 3 rfl) ?_
      refine lv_iload_n hx hb dL_law_636 rfl (lv_at hl 0 rfl) ?_
      refine lv_iconst (v := 2) hx hb dL_law_637 (by decide) ?_
      refine lv_iadd hx hb dL_law_638 ?_
      refine lv_topi (fun x_187 ex_187 => ?_)
      obtain rfl : x_187 = 2 := ex_187.trans (by decide)
      refine va_sld hx hb hX hbl hbA hS (vp_in_iff.mpr (by decide)) dL_law_639 ?_
      refine lv_aload_n hx hb dL_law_640 rfl (lv_at hl 3 rfl) ?_
      refine lv_iload_n hx hb dL_law_641 rfl (lv_at hl 0 rfl) ?_
      refine lv_iconst (v := 3) hx hb dL_law_642 (by decide) ?_
      refine lv_iadd hx hb dL_law_643 ?_
      refine lv_topi (fun x_188 ex_188 => ?_)
      obtain rfl : x_188 = 3 := ex_188.trans (by decide)
      refine va_sld hx hb hX hbl hbA hS (vp_in_iff.mpr (by decide)) dL_law_644 ?_
      have hPc := hP.sub (ws' := [(h0, .inr (3, [.ref h1, .ref h2, .ref h4])), (h1, .inl (kS, 4, .inr (.inr (.inr (.inr (fun _ => none))))))]) [0, 1] rfl
      have hKc := hK.sub (tys' := [(kS, .object "SignForms$Stream")]) [0] rfl
      refine vp_callSi (W.runV (As := [.int (xs (1 : Int32).toNatClampNeg), .int (xs (2 : Int32).toNatClampNeg), .int (xs (3 : Int32).toNatClampNeg)]) (rest := []) ⟨hx, hb, hml, hown, hts⟩ (kX4_among l dC dI h0 h1 h2 h4 kS (xs (1 : Int32).toNatClampNeg) (xs (2 : Int32).toNatClampNeg) (xs (3 : Int32).toNatClampNeg)) (cwV 3 hts gL_law_X4_among rfl rfl rfl (by decide +kernel) ⟨Nat.le_of_ble_eq_true rfl, Nat.le_of_ble_eq_true rfl⟩) ⟨fun a U g mk q => by obtain ⟨q0, qP, qK⟩ := q; exact ⟨q0, qP, va_K.moved (u := U) (U := U.calling g mk a) (Vm.Alike.refl U.vm) qK⟩, va_recv hKc hPc (ci := 3) (q0 := 0) rfl rfl, fun U hU hW => ⟨rfl, by rw [hU]; exact hPc, va_K.moved hW.alike hKc⟩⟩ rfl rfl hl.1 rfl (lv_room (Nat.le_of_ble_eq_true rfl)) dL_law_645 ⟨Nat.le_of_ble_eq_true rfl, Nat.le_of_ble_eq_true rfl⟩) (fun r_189 hwr_189 => ?_)
      refine lv_aload_n hx hb dL_law_648 rfl (lv_at hl 1 rfl) ?_
      refine lv_aload_n hx hb dL_law_649 rfl (lv_at hl 3 rfl) ?_
      refine lv_iload_n hx hb dL_law_650 rfl (lv_at hl 0 rfl) ?_
      refine lv_iconst (v := 1) hx hb dL_law_651 (by decide) ?_
      refine lv_iadd hx hb dL_law_652 ?_
      refine lv_topi (fun x_190 ex_190 => ?_)
      obtain rfl : x_190 = 1 := ex_190.trans (by decide)
      refine va_sld hx hb hX hbl hbA hS (vp_in_iff.mpr (by decide)) dL_law_653 ?_
      refine lv_aload_n hx hb dL_law_654 rfl (lv_at hl 3 rfl) ?_
      refine lv_iload_n hx hb dL_law_655 rfl (lv_at hl 0 rfl) ?_
      refine lv_iconst (v := 2) hx hb dL_law_656 (by decide) ?_
      refine lv_iadd hx hb dL_law_657 ?_
      refine lv_topi (fun x_191 ex_191 => ?_)
      obtain rfl : x_191 = 2 := ex_191.trans (by decide)
      refine va_sld hx hb hX hbl hbA hS (vp_in_iff.mpr (by decide)) dL_law_658 ?_
      refine lv_aload_n hx hb dL_law_659 rfl (lv_at hl 3 rfl) ?_
      refine lv_iload_n hx hb dL_law_660 rfl (lv_at hl 0 rfl) ?_
      refine lv_iconst (v := 3) hx hb dL_law_661 (by decide) ?_
      refine lv_iadd hx hb dL_law_662 ?_
      refine lv_topi (fun x_192 ex_192 => ?_)
      obtain rfl : x_192 = 3 := ex_192.trans (by decide)
      refine va_sld hx hb hX hbl hbA hS (vp_in_iff.mpr (by decide)) dL_law_663 ?_
      have hPc := hP.sub (ws' := [(g0, .inr (4, [.ref g1, .ref g2, .ref g3, .ref g4, .ref g5, .ref g6, .ref g7, .ref g8, .ref g9, .ref g10, .ref g11, .ref g12, .ref g13, .ref g14, .ref g15, .ref g16, .ref g17, .ref g18, .int 0, .ref g19, .int 0, .int 0, .int 0])), (g1, .inl (kG1, 4, .inl (fun _ => 0)))]) [5, 6] rfl
      have hKc := hK.sub (tys' := [(kG1, .boolean)]) [2] rfl
      refine vp_callSi (W.runV (As := [.int (xs (1 : Int32).toNatClampNeg), .int (xs (2 : Int32).toNatClampNeg), .int (xs (3 : Int32).toNatClampNeg)]) (rest := [.int r_189]) ⟨hx, hb, hml, hown, hts⟩ (kX5_among l dC dI g0 g1 g2 g3 g4 g5 g6 g7 g8 g9 g10 g11 g12 g13 g14 g15 g16 g17 g18 g19 kG1 (xs (1 : Int32).toNatClampNeg) (xs (2 : Int32).toNatClampNeg) (xs (3 : Int32).toNatClampNeg)) (cwV 3 hts gL_law_X5_among rfl rfl rfl (by decide +kernel) ⟨Nat.le_of_ble_eq_true rfl, Nat.le_of_ble_eq_true rfl⟩) ⟨fun a U g mk q => by obtain ⟨q0, qP, qK⟩ := q; exact ⟨q0, qP, va_K.moved (u := U) (U := U.calling g mk a) (Vm.Alike.refl U.vm) qK⟩, va_recv hKc hPc (ci := 4) (q0 := 0) rfl rfl, fun U hU hW => ⟨rfl, by rw [hU]; exact hPc, va_K.moved hW.alike hKc⟩⟩ rfl rfl hl.1 rfl (lv_room (Nat.le_of_ble_eq_true rfl)) dL_law_664 ⟨Nat.le_of_ble_eq_true rfl, Nat.le_of_ble_eq_true rfl⟩) (fun r_193 hwr_193 => ?_)
      refine lv_icmp_eq (tgt := 672) hx hb dL_law_667 (by decide) (fun _ => ?_) (fun c_194 => False.elim (by first | exact c_194 (hwr_189.trans hwr_193.symm) | exact c_194 (zz_same hwr_189 hwr_193)))
      refine lv_iinc (v := 5) (lv' := [(3, .int 5), (2, .ref g0), (1, .ref h0), (0, .ref b)]) hx hb dL_law_672 hl (k := 0) rfl (by decide) (by decide) rfl (fun ls hl => ?_)
      refine lv_goto (tgt := 18) hx hb dL_law_675 (by decide) ?_
      refine lv_iload_n hx hb dL_law_18 rfl (lv_at hl 0 rfl) ?_
      refine lv_aload_n hx hb dL_law_19 rfl (lv_at hl 3 rfl) ?_
      refine va_slen hx hb hX hbl hbA hS dL_law_20 ?_
      refine W.eq (g2 := F0 m 21 ls [.int 5, .int 5]) rfl ?_
      refine lv_iconst (v := 5) hx hb dL_law_21 (by decide) ?_
      refine lv_isub hx hb dL_law_22 ?_
      refine lv_topi (fun x_196 ex_196 => ?_)
      obtain rfl : x_196 = 0 := ex_196.trans (by decide)
      refine lv_icmp_gt (tgt := 678) hx hb dL_law_23 (by decide) (fun _ => ?_) (fun c_197 => False.elim (by revert c_197; decide))
      refine lv_iconst (v := 1) hx hb dL_law_678 (by decide) ?_
      refine va_forget (fun q hq => hS.2.2 q hq) ?_
      refine W.widen (k := 600000) (n := 7302250) (by omega) (by omega) ?_
      exact lw_ret hx hb hr hlocks dL_law_679
    · refine lv_tableOut (tgt := 672) hx hb dL_law_32 (Or.inr (by omega)) (by decide) ?_
      refine lv_iinc (v := 5) (lv' := [(3, .int 5), (2, .ref g0), (1, .ref h0), (0, .ref b)]) hx hb dL_law_672 hl (k := 0) rfl (by decide) (by decide) rfl (fun ls hl => ?_)
      refine lv_goto (tgt := 18) hx hb dL_law_675 (by decide) ?_
      refine lv_iload_n hx hb dL_law_18 rfl (lv_at hl 0 rfl) ?_
      refine lv_aload_n hx hb dL_law_19 rfl (lv_at hl 3 rfl) ?_
      refine va_slen hx hb hX hbl hbA hS dL_law_20 ?_
      refine W.eq (g2 := F0 m 21 ls [.int 5, .int 5]) rfl ?_
      refine lv_iconst (v := 5) hx hb dL_law_21 (by decide) ?_
      refine lv_isub hx hb dL_law_22 ?_
      refine lv_topi (fun x_199 ex_199 => ?_)
      obtain rfl : x_199 = 0 := ex_199.trans (by decide)
      refine lv_icmp_gt (tgt := 678) hx hb dL_law_23 (by decide) (fun _ => ?_) (fun c_200 => False.elim (by revert c_200; decide))
      refine lv_iconst (v := 1) hx hb dL_law_678 (by decide) ?_
      refine va_forget (fun q hq => hS.2.2 q hq) ?_
      refine W.widen (k := 600000) (n := 7302250) (by omega) (by omega) ?_
      exact lw_ret hx hb hr hlocks dL_law_679
