section
-- ===== PART A: goes FIRST, ahead of the names: the tables' words, and 'selects' of the private methods out of them =====
/-- a private method of a class that the tables say can be made, by its rows of tables_1 -/
def lw_okq (q : MethodName × Nat) : Prop := (q.1.cls ≠ "java/lang/invoke/MethodHandle" ∧ q.1.cls ≠ "java/lang/invoke/VarHandle") ∧ Cond.instantiable q.1.cls q.2 ∈ tables_1 ∧ Cond.privateMethod q.1 ∈ tables_1 ∧ Cond.instanceMethod q.1 ∈ tables_1
theorem lw_p0 : lw_okq (⟨"SignForms", "isStream", "(I)Z"⟩, 3) := ⟨⟨by decide +kernel, by decide +kernel⟩, List.mem_of_getElem? (i := 9) (by decide +kernel), List.mem_of_getElem? (i := 70) (by decide +kernel), List.mem_of_getElem? (i := 71) (by decide +kernel)⟩
theorem lw_p1 : lw_okq (⟨"SignForms$Stream", "findForm", "()V"⟩, 16) := ⟨⟨by decide +kernel, by decide +kernel⟩, List.mem_of_getElem? (i := 73) (by decide +kernel), List.mem_of_getElem? (i := 156) (by decide +kernel), List.mem_of_getElem? (i := 157) (by decide +kernel)⟩
theorem lw_p2 : lw_okq (⟨"SignForms$Stream", "agrees", "(II)Z"⟩, 16) := ⟨⟨by decide +kernel, by decide +kernel⟩, List.mem_of_getElem? (i := 73) (by decide +kernel), List.mem_of_getElem? (i := 167) (by decide +kernel), List.mem_of_getElem? (i := 168) (by decide +kernel)⟩
theorem lw_p3 : lw_okq (⟨"SignForms$Stream", "tellParts", "()V"⟩, 16) := ⟨⟨by decide +kernel, by decide +kernel⟩, List.mem_of_getElem? (i := 73) (by decide +kernel), List.mem_of_getElem? (i := 173) (by decide +kernel), List.mem_of_getElem? (i := 174) (by decide +kernel)⟩
theorem lw_p4 : lw_okq (⟨"SignForms$Part", "tellNothing", "()V"⟩, 3) := ⟨⟨by decide +kernel, by decide +kernel⟩, List.mem_of_getElem? (i := 35) (by decide +kernel), List.mem_of_getElem? (i := 181) (by decide +kernel), List.mem_of_getElem? (i := 182) (by decide +kernel)⟩
theorem lw_p5 : lw_okq (⟨"SignForms$Part", "lookAtBytes", "([IIIZ)V"⟩, 3) := ⟨⟨by decide +kernel, by decide +kernel⟩, List.mem_of_getElem? (i := 35) (by decide +kernel), List.mem_of_getElem? (i := 185) (by decide +kernel), List.mem_of_getElem? (i := 186) (by decide +kernel)⟩
theorem lw_p6 : lw_okq (⟨"SignForms$Part", "tellSubpart", "(I)V"⟩, 3) := ⟨⟨by decide +kernel, by decide +kernel⟩, List.mem_of_getElem? (i := 35) (by decide +kernel), List.mem_of_getElem? (i := 192) (by decide +kernel), List.mem_of_getElem? (i := 193) (by decide +kernel)⟩
theorem lw_p7 : lw_okq (⟨"SignForms$Part", "lookAtSecondHalf", "([IIII)V"⟩, 3) := ⟨⟨by decide +kernel, by decide +kernel⟩, List.mem_of_getElem? (i := 35) (by decide +kernel), List.mem_of_getElem? (i := 207) (by decide +kernel), List.mem_of_getElem? (i := 208) (by decide +kernel)⟩
theorem lw_p8 : lw_okq (⟨"SignForms$Part", "tellSign", "(II)V"⟩, 3) := ⟨⟨by decide +kernel, by decide +kernel⟩, List.mem_of_getElem? (i := 35) (by decide +kernel), List.mem_of_getElem? (i := 221) (by decide +kernel), List.mem_of_getElem? (i := 222) (by decide +kernel)⟩
theorem lw_p9 : lw_okq (⟨"SignForms$Part", "lookAtPairs", "([IIIZ)V"⟩, 3) := ⟨⟨by decide +kernel, by decide +kernel⟩, List.mem_of_getElem? (i := 35) (by decide +kernel), List.mem_of_getElem? (i := 225) (by decide +kernel), List.mem_of_getElem? (i := 226) (by decide +kernel)⟩
theorem lw_p10 : lw_okq (⟨"SignForms$Part", "lookAtFour", "([IIIZ)V"⟩, 3) := ⟨⟨by decide +kernel, by decide +kernel⟩, List.mem_of_getElem? (i := 35) (by decide +kernel), List.mem_of_getElem? (i := 236) (by decide +kernel), List.mem_of_getElem? (i := 237) (by decide +kernel)⟩
theorem lw_p11 : lw_okq (⟨"SignForms$Stream", "addSign", "(II)V"⟩, 16) := ⟨⟨by decide +kernel, by decide +kernel⟩, List.mem_of_getElem? (i := 73) (by decide +kernel), List.mem_of_getElem? (i := 245) (by decide +kernel), List.mem_of_getElem? (i := 246) (by decide +kernel)⟩
theorem lw_p12 : lw_okq (⟨"SignForms$Stream", "meetSubpart", "()V"⟩, 16) := ⟨⟨by decide +kernel, by decide +kernel⟩, List.mem_of_getElem? (i := 73) (by decide +kernel), List.mem_of_getElem? (i := 249) (by decide +kernel), List.mem_of_getElem? (i := 250) (by decide +kernel)⟩
theorem lw_p13 : lw_okq (⟨"SignForms", "openStream", "(I)LSignForms$Stream;"⟩, 3) := ⟨⟨by decide +kernel, by decide +kernel⟩, List.mem_of_getElem? (i := 9) (by decide +kernel), List.mem_of_getElem? (i := 279) (by decide +kernel), List.mem_of_getElem? (i := 280) (by decide +kernel)⟩
theorem lw_p14 : lw_okq (⟨"SignForms$OutRow", "addNumber", "(II)V"⟩, 2) := ⟨⟨by decide +kernel, by decide +kernel⟩, List.mem_of_getElem? (i := 19) (by decide +kernel), List.mem_of_getElem? (i := 327) (by decide +kernel), List.mem_of_getElem? (i := 328) (by decide +kernel)⟩
theorem lw_p15 : lw_okq (⟨"SignForms$OutRow", "addBytes", "(II)V"⟩, 2) := ⟨⟨by decide +kernel, by decide +kernel⟩, List.mem_of_getElem? (i := 19) (by decide +kernel), List.mem_of_getElem? (i := 332) (by decide +kernel), List.mem_of_getElem? (i := 333) (by decide +kernel)⟩
def lw_privs_1 : List (MethodName × Nat) := [(⟨"SignForms", "isStream", "(I)Z"⟩, 3), (⟨"SignForms$Stream", "findForm", "()V"⟩, 16), (⟨"SignForms$Stream", "agrees", "(II)Z"⟩, 16), (⟨"SignForms$Stream", "tellParts", "()V"⟩, 16), (⟨"SignForms$Part", "tellNothing", "()V"⟩, 3), (⟨"SignForms$Part", "lookAtBytes", "([IIIZ)V"⟩, 3), (⟨"SignForms$Part", "tellSubpart", "(I)V"⟩, 3), (⟨"SignForms$Part", "lookAtSecondHalf", "([IIII)V"⟩, 3), (⟨"SignForms$Part", "tellSign", "(II)V"⟩, 3), (⟨"SignForms$Part", "lookAtPairs", "([IIIZ)V"⟩, 3), (⟨"SignForms$Part", "lookAtFour", "([IIIZ)V"⟩, 3), (⟨"SignForms$Stream", "addSign", "(II)V"⟩, 16), (⟨"SignForms$Stream", "meetSubpart", "()V"⟩, 16), (⟨"SignForms", "openStream", "(I)LSignForms$Stream;"⟩, 3), (⟨"SignForms$OutRow", "addNumber", "(II)V"⟩, 2), (⟨"SignForms$OutRow", "addBytes", "(II)V"⟩, 2)]
theorem lw_r1 : ∀ q ∈ lw_privs_1, lw_okq q := List.forall_mem_cons.mpr ⟨lw_p0, List.forall_mem_cons.mpr ⟨lw_p1, List.forall_mem_cons.mpr ⟨lw_p2, List.forall_mem_cons.mpr ⟨lw_p3, List.forall_mem_cons.mpr ⟨lw_p4, List.forall_mem_cons.mpr ⟨lw_p5, List.forall_mem_cons.mpr ⟨lw_p6, List.forall_mem_cons.mpr ⟨lw_p7, List.forall_mem_cons.mpr ⟨lw_p8, List.forall_mem_cons.mpr ⟨lw_p9, List.forall_mem_cons.mpr ⟨lw_p10, List.forall_mem_cons.mpr ⟨lw_p11, List.forall_mem_cons.mpr ⟨lw_p12, List.forall_mem_cons.mpr ⟨lw_p13, List.forall_mem_cons.mpr ⟨lw_p14, List.forall_mem_cons.mpr ⟨lw_p15, fun _ h => absurd h List.not_mem_nil⟩⟩⟩⟩⟩⟩⟩⟩⟩⟩⟩⟩⟩⟩⟩⟩
theorem lw_p16 : lw_okq (⟨"SignForms$OutRow", "add", "(I)V"⟩, 2) := ⟨⟨by decide +kernel, by decide +kernel⟩, List.mem_of_getElem? (i := 19) (by decide +kernel), List.mem_of_getElem? (i := 336) (by decide +kernel), List.mem_of_getElem? (i := 337) (by decide +kernel)⟩
theorem lw_p17 : lw_okq (⟨"SignForms$OutRow", "addLowFirst", "(II)V"⟩, 2) := ⟨⟨by decide +kernel, by decide +kernel⟩, List.mem_of_getElem? (i := 19) (by decide +kernel), List.mem_of_getElem? (i := 343) (by decide +kernel), List.mem_of_getElem? (i := 344) (by decide +kernel)⟩
theorem lw_p18 : lw_okq (⟨"SignForms$OutRow", "addHighFirst", "(II)V"⟩, 2) := ⟨⟨by decide +kernel, by decide +kernel⟩, List.mem_of_getElem? (i := 19) (by decide +kernel), List.mem_of_getElem? (i := 347) (by decide +kernel), List.mem_of_getElem? (i := 348) (by decide +kernel)⟩
theorem lw_p19 : lw_okq (⟨"SignFormsModel", "findAll", "(I)V"⟩, 23) := ⟨⟨by decide +kernel, by decide +kernel⟩, List.mem_of_getElem? (i := 390) (by decide +kernel), List.mem_of_getElem? (i := 474) (by decide +kernel), List.mem_of_getElem? (i := 475) (by decide +kernel)⟩
theorem lw_p20 : lw_okq (⟨"SignFormsModel", "findForm", "(IZ)I"⟩, 23) := ⟨⟨by decide +kernel, by decide +kernel⟩, List.mem_of_getElem? (i := 390) (by decide +kernel), List.mem_of_getElem? (i := 478) (by decide +kernel), List.mem_of_getElem? (i := 479) (by decide +kernel)⟩
theorem lw_p21 : lw_okq (⟨"SignFormsModel", "isBegun", "(IIIIII)Z"⟩, 23) := ⟨⟨by decide +kernel, by decide +kernel⟩, List.mem_of_getElem? (i := 390) (by decide +kernel), List.mem_of_getElem? (i := 482) (by decide +kernel), List.mem_of_getElem? (i := 483) (by decide +kernel)⟩
theorem lw_p22 : lw_okq (⟨"SignFormsModel", "partAt", "(IIIZ)I"⟩, 23) := ⟨⟨by decide +kernel, by decide +kernel⟩, List.mem_of_getElem? (i := 390) (by decide +kernel), List.mem_of_getElem? (i := 486) (by decide +kernel), List.mem_of_getElem? (i := 487) (by decide +kernel)⟩
theorem lw_p23 : lw_okq (⟨"SignFormsModel", "bytesAt", "(ZIIZ)I"⟩, 23) := ⟨⟨by decide +kernel, by decide +kernel⟩, List.mem_of_getElem? (i := 390) (by decide +kernel), List.mem_of_getElem? (i := 490) (by decide +kernel), List.mem_of_getElem? (i := 491) (by decide +kernel)⟩
theorem lw_p24 : lw_okq (⟨"SignFormsModel", "part", "(II)I"⟩, 23) := ⟨⟨by decide +kernel, by decide +kernel⟩, List.mem_of_getElem? (i := 390) (by decide +kernel), List.mem_of_getElem? (i := 494) (by decide +kernel), List.mem_of_getElem? (i := 495) (by decide +kernel)⟩
theorem lw_p25 : lw_okq (⟨"SignFormsModel", "wanted", "(ZII)I"⟩, 23) := ⟨⟨by decide +kernel, by decide +kernel⟩, List.mem_of_getElem? (i := 390) (by decide +kernel), List.mem_of_getElem? (i := 498) (by decide +kernel), List.mem_of_getElem? (i := 499) (by decide +kernel)⟩
theorem lw_p26 : lw_okq (⟨"SignFormsModel", "goesOn", "(ZII)Z"⟩, 23) := ⟨⟨by decide +kernel, by decide +kernel⟩, List.mem_of_getElem? (i := 390) (by decide +kernel), List.mem_of_getElem? (i := 505) (by decide +kernel), List.mem_of_getElem? (i := 506) (by decide +kernel)⟩
theorem lw_p27 : lw_okq (⟨"SignFormsModel", "numberOf", "(II)I"⟩, 23) := ⟨⟨by decide +kernel, by decide +kernel⟩, List.mem_of_getElem? (i := 390) (by decide +kernel), List.mem_of_getElem? (i := 509) (by decide +kernel), List.mem_of_getElem? (i := 510) (by decide +kernel)⟩
theorem lw_p28 : lw_okq (⟨"SignFormsModel", "numberOf3", "(I)I"⟩, 23) := ⟨⟨by decide +kernel, by decide +kernel⟩, List.mem_of_getElem? (i := 390) (by decide +kernel), List.mem_of_getElem? (i := 513) (by decide +kernel), List.mem_of_getElem? (i := 514) (by decide +kernel)⟩
theorem lw_p29 : lw_okq (⟨"SignFormsModel", "unitAt", "(II)I"⟩, 23) := ⟨⟨by decide +kernel, by decide +kernel⟩, List.mem_of_getElem? (i := 390) (by decide +kernel), List.mem_of_getElem? (i := 520) (by decide +kernel), List.mem_of_getElem? (i := 521) (by decide +kernel)⟩
theorem lw_p30 : lw_okq (⟨"SignFormsModel", "pairsAt", "(IIIIZ)I"⟩, 23) := ⟨⟨by decide +kernel, by decide +kernel⟩, List.mem_of_getElem? (i := 390) (by decide +kernel), List.mem_of_getElem? (i := 526) (by decide +kernel), List.mem_of_getElem? (i := 527) (by decide +kernel)⟩
theorem lw_p31 : lw_okq (⟨"SignFormsModel", "add", "(IIIIZ)V"⟩, 23) := ⟨⟨by decide +kernel, by decide +kernel⟩, List.mem_of_getElem? (i := 390) (by decide +kernel), List.mem_of_getElem? (i := 530) (by decide +kernel), List.mem_of_getElem? (i := 531) (by decide +kernel)⟩
def lw_privs_2 : List (MethodName × Nat) := [(⟨"SignForms$OutRow", "add", "(I)V"⟩, 2), (⟨"SignForms$OutRow", "addLowFirst", "(II)V"⟩, 2), (⟨"SignForms$OutRow", "addHighFirst", "(II)V"⟩, 2), (⟨"SignFormsModel", "findAll", "(I)V"⟩, 23), (⟨"SignFormsModel", "findForm", "(IZ)I"⟩, 23), (⟨"SignFormsModel", "isBegun", "(IIIIII)Z"⟩, 23), (⟨"SignFormsModel", "partAt", "(IIIZ)I"⟩, 23), (⟨"SignFormsModel", "bytesAt", "(ZIIZ)I"⟩, 23), (⟨"SignFormsModel", "part", "(II)I"⟩, 23), (⟨"SignFormsModel", "wanted", "(ZII)I"⟩, 23), (⟨"SignFormsModel", "goesOn", "(ZII)Z"⟩, 23), (⟨"SignFormsModel", "numberOf", "(II)I"⟩, 23), (⟨"SignFormsModel", "numberOf3", "(I)I"⟩, 23), (⟨"SignFormsModel", "unitAt", "(II)I"⟩, 23), (⟨"SignFormsModel", "pairsAt", "(IIIIZ)I"⟩, 23), (⟨"SignFormsModel", "add", "(IIIIZ)V"⟩, 23)]
theorem lw_r2 : ∀ q ∈ lw_privs_2, lw_okq q := List.forall_mem_cons.mpr ⟨lw_p16, List.forall_mem_cons.mpr ⟨lw_p17, List.forall_mem_cons.mpr ⟨lw_p18, List.forall_mem_cons.mpr ⟨lw_p19, List.forall_mem_cons.mpr ⟨lw_p20, List.forall_mem_cons.mpr ⟨lw_p21, List.forall_mem_cons.mpr ⟨lw_p22, List.forall_mem_cons.mpr ⟨lw_p23, List.forall_mem_cons.mpr ⟨lw_p24, List.forall_mem_cons.mpr ⟨lw_p25, List.forall_mem_cons.mpr ⟨lw_p26, List.forall_mem_cons.mpr ⟨lw_p27, List.forall_mem_cons.mpr ⟨lw_p28, List.forall_mem_cons.mpr ⟨lw_p29, List.forall_mem_cons.mpr ⟨lw_p30, List.forall_mem_cons.mpr ⟨lw_p31, fun _ h => absurd h List.not_mem_nil⟩⟩⟩⟩⟩⟩⟩⟩⟩⟩⟩⟩⟩⟩⟩⟩
theorem lw_p32 : lw_okq (⟨"SignFormsModel", "takes", "(I)Z"⟩, 23) := ⟨⟨by decide +kernel, by decide +kernel⟩, List.mem_of_getElem? (i := 390) (by decide +kernel), List.mem_of_getElem? (i := 539) (by decide +kernel), List.mem_of_getElem? (i := 540) (by decide +kernel)⟩
theorem lw_p33 : lw_okq (⟨"SignFormsModel", "isSign", "(II)Z"⟩, 23) := ⟨⟨by decide +kernel, by decide +kernel⟩, List.mem_of_getElem? (i := 390) (by decide +kernel), List.mem_of_getElem? (i := 559) (by decide +kernel), List.mem_of_getElem? (i := 560) (by decide +kernel)⟩
theorem lw_p34 : lw_okq (⟨"SignFormsModel", "laySign", "(II)V"⟩, 23) := ⟨⟨by decide +kernel, by decide +kernel⟩, List.mem_of_getElem? (i := 390) (by decide +kernel), List.mem_of_getElem? (i := 582) (by decide +kernel), List.mem_of_getElem? (i := 583) (by decide +kernel)⟩
theorem lw_p35 : lw_okq (⟨"SignFormsModel", "lay", "(I)V"⟩, 23) := ⟨⟨by decide +kernel, by decide +kernel⟩, List.mem_of_getElem? (i := 390) (by decide +kernel), List.mem_of_getElem? (i := 586) (by decide +kernel), List.mem_of_getElem? (i := 587) (by decide +kernel)⟩
theorem lw_p36 : lw_okq (⟨"SignFormsModel", "layUnit", "(II)V"⟩, 23) := ⟨⟨by decide +kernel, by decide +kernel⟩, List.mem_of_getElem? (i := 390) (by decide +kernel), List.mem_of_getElem? (i := 590) (by decide +kernel), List.mem_of_getElem? (i := 591) (by decide +kernel)⟩
theorem lw_p37 : lw_okq (⟨"SignFormsModel", "layThree", "(I)V"⟩, 23) := ⟨⟨by decide +kernel, by decide +kernel⟩, List.mem_of_getElem? (i := 390) (by decide +kernel), List.mem_of_getElem? (i := 594) (by decide +kernel), List.mem_of_getElem? (i := 595) (by decide +kernel)⟩
theorem lw_p38 : lw_okq (⟨"SignFormsModel", "compared", "(III)I"⟩, 23) := ⟨⟨by decide +kernel, by decide +kernel⟩, List.mem_of_getElem? (i := 390) (by decide +kernel), List.mem_of_getElem? (i := 614) (by decide +kernel), List.mem_of_getElem? (i := 615) (by decide +kernel)⟩
def lw_privs_3 : List (MethodName × Nat) := [(⟨"SignFormsModel", "takes", "(I)Z"⟩, 23), (⟨"SignFormsModel", "isSign", "(II)Z"⟩, 23), (⟨"SignFormsModel", "laySign", "(II)V"⟩, 23), (⟨"SignFormsModel", "lay", "(I)V"⟩, 23), (⟨"SignFormsModel", "layUnit", "(II)V"⟩, 23), (⟨"SignFormsModel", "layThree", "(I)V"⟩, 23), (⟨"SignFormsModel", "compared", "(III)I"⟩, 23)]
theorem lw_r3 : ∀ q ∈ lw_privs_3, lw_okq q := List.forall_mem_cons.mpr ⟨lw_p32, List.forall_mem_cons.mpr ⟨lw_p33, List.forall_mem_cons.mpr ⟨lw_p34, List.forall_mem_cons.mpr ⟨lw_p35, List.forall_mem_cons.mpr ⟨lw_p36, List.forall_mem_cons.mpr ⟨lw_p37, List.forall_mem_cons.mpr ⟨lw_p38, fun _ h => absurd h List.not_mem_nil⟩⟩⟩⟩⟩⟩⟩
def lw_privs : List (MethodName × Nat) := lw_privs_1 ++ (lw_privs_2 ++ (lw_privs_3))
def lw_tbl : List Cond := k2_sels lw_privs ++ tables_1
theorem lw_privs_ok : ∀ q ∈ lw_privs, lw_okq q := by
  show ∀ q ∈ lw_privs_1 ++ (lw_privs_2 ++ (lw_privs_3)), lw_okq q
  exact List.forall_mem_append.mpr ⟨lw_r1, List.forall_mem_append.mpr ⟨lw_r2, lw_r3⟩⟩
end
section
/-! ===== BEGIN words of one list among another's, by their places ===== -/
theorem goodIn_r {big : List Cond} (ws : List Cond) (ps : List Nat) (hp : ws = ps.filterMap (fun i => big[i]?)) (h : ws.all goodWord = true) : GoodIn big ws := by
  intro w hw
  have h1 := List.all_eq_true.mp h w hw
  rw [hp] at hw
  obtain ⟨i, -, hi⟩ := List.mem_filterMap.mp hw
  have hm : w ∈ big := by first | exact List.mem_of_getElem? hi | exact List.getElem?_mem hi
  exact ⟨hm, good_of_word h1⟩
theorem goodIn_app {big a b : List Cond} (ha : GoodIn big a) (hb : GoodIn big b) : GoodIn big (a ++ b) := fun w h => (List.mem_append.mp h).elim (ha w) (hb w)
theorem goodIn_ca {big a b : List Cond} {c : Cond} (ha : GoodIn big (c :: a)) (hb : GoodIn big b) : GoodIn big (c :: (a ++ b)) := fun w h => (List.mem_cons.mp h).elim (fun e => ha w (List.mem_cons.mpr (Or.inl e))) (fun h => (List.mem_append.mp h).elim (fun h => ha w (List.mem_cons.mpr (Or.inr h))) (hb w))
theorem goodIn_sub {big ws : List Cond} (hm : ∀ w ∈ ws, w ∈ big) (h : ws.all goodWord = true) : GoodIn big ws := fun w hw => ⟨hm w hw, good_of_word (List.all_eq_true.mp h w hw)⟩
/-! ===== END ===== -/

/-! ===== BEGIN printed: names, fields, word lists, decode rows ===== -/
def RX0 : String := "SignForms$Halves"
def TX0 : u_T := fun k => match k with
  | _ => ("", "", "", false)
def tyX0 : Nat → FieldType := fun k => match k with
  | _ => .int
abbrev wsX00 : List Cond := u_ws RX0 TX0 0
theorem nmX0 : ∀ a, a < 0 → ∀ b, b < 0 → a ≠ b → (TX0 a).2.1 ≠ (TX0 b).2.1 := by decide +kernel
theorem tyX0_ok : ∀ k, k < 0 → parseFieldDescriptor (TX0 k).2.2.1 = some (tyX0 k) := by decide +kernel
abbrev cX0_isFirst : ByteArray := prog_2_method_2_code
def yX0_isFirst : MethodName := ⟨RX0, "isFirst", "(I)Z"⟩
abbrev cX0_isSecond : ByteArray := prog_2_method_3_code
def yX0_isSecond : MethodName := ⟨RX0, "isSecond", "(I)Z"⟩
abbrev cX0_firstOf : ByteArray := prog_2_method_4_code
def yX0_firstOf : MethodName := ⟨RX0, "firstOf", "(I)I"⟩
abbrev cX0_secondOf : ByteArray := prog_2_method_5_code
def yX0_secondOf : MethodName := ⟨RX0, "secondOf", "(I)I"⟩
abbrev cX0_joined : ByteArray := prog_2_method_6_code
def yX0_joined : MethodName := ⟨RX0, "joined", "(II)I"⟩
def RX1 : String := "SignForms$OutRow"
def TX1 : u_T := fun k => match k with
  | 0 => ("SignForms$OutRow", "bytes", "[I", true)
  | _ => ("SignForms$OutRow", "count", "I", false)
def tyX1 : Nat → FieldType := fun k => match k with
  | 0 => .array .int
  | _ => .int
abbrev wsX10 : List Cond := u_ws RX1 TX1 2
theorem nmX1 : ∀ a, a < 2 → ∀ b, b < 2 → a ≠ b → (TX1 a).2.1 ≠ (TX1 b).2.1 := by decide +kernel
theorem tyX1_ok : ∀ k, k < 2 → parseFieldDescriptor (TX1 k).2.2.1 = some (tyX1 k) := by decide +kernel
abbrev cX1_init : ByteArray := prog_3_method_1_code
def yX1_init : MethodName := ⟨RX1, "<init>", "()V"⟩
abbrev cX1_byteAt : ByteArray := prog_3_method_2_code
def yX1_byteAt : MethodName := ⟨RX1, "byteAt", "(I)I"⟩
abbrev cX1_addSign : ByteArray := prog_3_method_3_code
def yX1_addSign : MethodName := ⟨RX1, "addSign", "(II)V"⟩
abbrev cX1_addNumber : ByteArray := prog_3_method_4_code
def yX1_addNumber : MethodName := ⟨RX1, "addNumber", "(II)V"⟩
abbrev cX1_addBytes : ByteArray := prog_3_method_5_code
def yX1_addBytes : MethodName := ⟨RX1, "addBytes", "(II)V"⟩
abbrev cX1_leadOf : ByteArray := prog_3_method_6_code
def yX1_leadOf : MethodName := ⟨RX1, "leadOf", "(I)I"⟩
abbrev cX1_addLowFirst : ByteArray := prog_3_method_7_code
def yX1_addLowFirst : MethodName := ⟨RX1, "addLowFirst", "(II)V"⟩
abbrev cX1_addHighFirst : ByteArray := prog_3_method_8_code
def yX1_addHighFirst : MethodName := ⟨RX1, "addHighFirst", "(II)V"⟩
abbrev cX1_add : ByteArray := prog_3_method_9_code
def yX1_add : MethodName := ⟨RX1, "add", "(I)V"⟩
def RX2 : String := "SignForms$Part"
def TX2 : u_T := fun k => match k with
  | 0 => ("SignForms$Part", "isSign", "Z", false)
  | 1 => ("SignForms$Part", "sign", "I", false)
  | _ => ("SignForms$Part", "length", "I", false)
def tyX2 : Nat → FieldType := fun k => match k with
  | 0 => .boolean
  | 1 => .int
  | _ => .int
abbrev wsX20 : List Cond := u_ws RX2 TX2 3
theorem nmX2 : ∀ a, a < 3 → ∀ b, b < 3 → a ≠ b → (TX2 a).2.1 ≠ (TX2 b).2.1 := by decide +kernel
theorem tyX2_ok : ∀ k, k < 3 → parseFieldDescriptor (TX2 k).2.2.1 = some (tyX2 k) := by decide +kernel
abbrev cX2_init : ByteArray := prog_4_method_1_code
def yX2_init : MethodName := ⟨RX2, "<init>", "()V"⟩
abbrev cX2_look : ByteArray := prog_4_method_2_code
def yX2_look : MethodName := ⟨RX2, "look", "([IIIIZ)V"⟩
abbrev cX2_tellSign : ByteArray := prog_4_method_3_code
def yX2_tellSign : MethodName := ⟨RX2, "tellSign", "(II)V"⟩
abbrev cX2_tellSubpart : ByteArray := prog_4_method_4_code
def yX2_tellSubpart : MethodName := ⟨RX2, "tellSubpart", "(I)V"⟩
abbrev cX2_tellNothing : ByteArray := prog_4_method_5_code
def yX2_tellNothing : MethodName := ⟨RX2, "tellNothing", "()V"⟩
abbrev cX2_cutLength : ByteArray := prog_4_method_6_code
def yX2_cutLength : MethodName := ⟨RX2, "cutLength", "(II)I"⟩
abbrev cX2_lookAtBytes : ByteArray := prog_4_method_7_code
def yX2_lookAtBytes : MethodName := ⟨RX2, "lookAtBytes", "([IIIZ)V"⟩
abbrev cX2_neededBy : ByteArray := prog_4_method_8_code
def yX2_neededBy : MethodName := ⟨RX2, "neededBy", "(IZ)I"⟩
abbrev cX2_leastBehind : ByteArray := prog_4_method_9_code
def yX2_leastBehind : MethodName := ⟨RX2, "leastBehind", "(I)I"⟩
abbrev cX2_mostBehind : ByteArray := prog_4_method_10_code
def yX2_mostBehind : MethodName := ⟨RX2, "mostBehind", "(IZ)I"⟩
abbrev cX2_lookAtSecondHalf : ByteArray := prog_4_method_11_code
def yX2_lookAtSecondHalf : MethodName := ⟨RX2, "lookAtSecondHalf", "([IIII)V"⟩
abbrev cX2_lookAtPairs : ByteArray := prog_4_method_12_code
def yX2_lookAtPairs : MethodName := ⟨RX2, "lookAtPairs", "([IIIZ)V"⟩
abbrev cX2_lookAtFour : ByteArray := prog_4_method_13_code
def yX2_lookAtFour : MethodName := ⟨RX2, "lookAtFour", "([IIIZ)V"⟩
abbrev cX2_unit : ByteArray := prog_4_method_14_code
def yX2_unit : MethodName := ⟨RX2, "unit", "([IIIZ)I"⟩
def RX3 : String := "SignForms$Stream"
def TX3 : u_T := fun k => match k with
  | 0 => ("SignForms$Stream", "bytes", "[I", true)
  | 1 => ("SignForms$Stream", "signs", "[I", true)
  | 2 => ("SignForms$Stream", "places", "[I", true)
  | 3 => ("SignForms$Stream", "lengths", "[I", true)
  | 4 => ("SignForms$Stream", "replaced", "[I", true)
  | 5 => ("SignForms$Stream", "part", "LSignForms$Part;", true)
  | 6 => ("SignForms$Stream", "form", "I", false)
  | 7 => ("SignForms$Stream", "policy", "I", false)
  | 8 => ("SignForms$Stream", "came", "I", false)
  | 9 => ("SignForms$Stream", "decided", "I", false)
  | 10 => ("SignForms$Stream", "signCount", "I", false)
  | 11 => ("SignForms$Stream", "subparts", "I", false)
  | 12 => ("SignForms$Stream", "firstSubpart", "I", false)
  | 13 => ("SignForms$Stream", "brokenAt", "I", false)
  | 14 => ("SignForms$Stream", "marked", "Z", false)
  | _ => ("SignForms$Stream", "ended", "Z", false)
def tyX3 : Nat → FieldType := fun k => match k with
  | 0 => .array .int
  | 1 => .array .int
  | 2 => .array .int
  | 3 => .array .int
  | 4 => .array .int
  | 5 => .object "SignForms$Part"
  | 6 => .int
  | 7 => .int
  | 8 => .int
  | 9 => .int
  | 10 => .int
  | 11 => .int
  | 12 => .int
  | 13 => .int
  | 14 => .boolean
  | _ => .boolean
abbrev wsX30 : List Cond := u_ws RX3 TX3 16
theorem nmX3 : ∀ a, a < 16 → ∀ b, b < 16 → a ≠ b → (TX3 a).2.1 ≠ (TX3 b).2.1 := by decide +kernel
theorem tyX3_ok : ∀ k, k < 16 → parseFieldDescriptor (TX3 k).2.2.1 = some (tyX3 k) := by decide +kernel
abbrev cX3_init : ByteArray := prog_5_method_1_code
def yX3_init : MethodName := ⟨RX3, "<init>", "()V"⟩
abbrev cX3_begin : ByteArray := prog_5_method_2_code
def yX3_begin : MethodName := ⟨RX3, "begin", "(II)V"⟩
abbrev cX3_hasRoomFor : ByteArray := prog_5_method_3_code
def yX3_hasRoomFor : MethodName := ⟨RX3, "hasRoomFor", "(I)Z"⟩
abbrev cX3_take : ByteArray := prog_5_method_4_code
def yX3_take : MethodName := ⟨RX3, "take", "(I)V"⟩
abbrev cX3_decide : ByteArray := prog_5_method_5_code
def yX3_decide : MethodName := ⟨RX3, "decide", "()V"⟩
abbrev cX3_findForm : ByteArray := prog_5_method_6_code
def yX3_findForm : MethodName := ⟨RX3, "findForm", "()V"⟩
abbrev cX3_agrees : ByteArray := prog_5_method_7_code
def yX3_agrees : MethodName := ⟨RX3, "agrees", "(II)Z"⟩
abbrev cX3_tellParts : ByteArray := prog_5_method_8_code
def yX3_tellParts : MethodName := ⟨RX3, "tellParts", "()V"⟩
abbrev cX3_meetSubpart : ByteArray := prog_5_method_9_code
def yX3_meetSubpart : MethodName := ⟨RX3, "meetSubpart", "()V"⟩
abbrev cX3_addSign : ByteArray := prog_5_method_10_code
def yX3_addSign : MethodName := ⟨RX3, "addSign", "(II)V"⟩
abbrev cX3_fact : ByteArray := prog_5_method_11_code
def yX3_fact : MethodName := ⟨RX3, "fact", "(I)I"⟩
abbrev cX3_hasSign : ByteArray := prog_5_method_12_code
def yX3_hasSign : MethodName := ⟨RX3, "hasSign", "(I)Z"⟩
abbrev cX3_signOver : ByteArray := prog_5_method_13_code
def yX3_signOver : MethodName := ⟨RX3, "signOver", "(I)I"⟩
abbrev cX3_bytesInForm : ByteArray := prog_5_method_14_code
def yX3_bytesInForm : MethodName := ⟨RX3, "bytesInForm", "(III)I"⟩
abbrev cX3_countAmong : ByteArray := prog_5_method_15_code
def yX3_countAmong : MethodName := ⟨RX3, "countAmong", "(II)I"⟩
def RX4 : String := "SignForms"
def TX4 : u_T := fun k => match k with
  | 0 => ("SignForms", "streams", "[LSignForms$Stream;", true)
  | 1 => ("SignForms", "outRow", "LSignForms$OutRow;", true)
  | _ => ("SignForms", "part", "LSignForms$Part;", true)
def tyX4 : Nat → FieldType := fun k => match k with
  | 0 => .array (.object "SignForms$Stream")
  | 1 => .object "SignForms$OutRow"
  | _ => .object "SignForms$Part"
abbrev wsX40 : List Cond := u_ws RX4 TX4 3
theorem nmX4 : ∀ a, a < 3 → ∀ b, b < 3 → a ≠ b → (TX4 a).2.1 ≠ (TX4 b).2.1 := by decide +kernel
theorem tyX4_ok : ∀ k, k < 3 → parseFieldDescriptor (TX4 k).2.2.1 = some (tyX4 k) := by decide +kernel
abbrev cX4_init : ByteArray := prog_1_method_1_code
def yX4_init : MethodName := ⟨RX4, "<init>", "()V"⟩
abbrev cX4_open : ByteArray := prog_1_method_2_code
def yX4_open : MethodName := ⟨RX4, "open", "(III)Z"⟩
abbrev cX4_put : ByteArray := prog_1_method_3_code
def yX4_put : MethodName := ⟨RX4, "put", "(IJI)I"⟩
abbrev cX4_pour : ByteArray := prog_1_method_4_code
def yX4_pour : MethodName := ⟨RX4, "pour", "(III)I"⟩
abbrev cX4_end : ByteArray := prog_1_method_5_code
def yX4_end : MethodName := ⟨RX4, "end", "(I)I"⟩
abbrev cX4_about : ByteArray := prog_1_method_6_code
def yX4_about : MethodName := ⟨RX4, "about", "(II)I"⟩
abbrev cX4_sign : ByteArray := prog_1_method_7_code
def yX4_sign : MethodName := ⟨RX4, "sign", "(II)I"⟩
abbrev cX4_placed : ByteArray := prog_1_method_8_code
def yX4_placed : MethodName := ⟨RX4, "placed", "(III)I"⟩
abbrev cX4_at : ByteArray := prog_1_method_9_code
def yX4_at : MethodName := ⟨RX4, "at", "(II)I"⟩
abbrev cX4_write : ByteArray := prog_1_method_10_code
def yX4_write : MethodName := ⟨RX4, "write", "(IIZ)I"⟩
abbrev cX4_size : ByteArray := prog_1_method_11_code
def yX4_size : MethodName := ⟨RX4, "size", "(IIII)I"⟩
abbrev cX4_out : ByteArray := prog_1_method_12_code
def yX4_out : MethodName := ⟨RX4, "out", "(I)I"⟩
abbrev cX4_check : ByteArray := prog_1_method_13_code
def yX4_check : MethodName := ⟨RX4, "check", "(I)I"⟩
abbrev cX4_order : ByteArray := prog_1_method_14_code
def yX4_order : MethodName := ⟨RX4, "order", "(III)I"⟩
abbrev cX4_among : ByteArray := prog_1_method_15_code
def yX4_among : MethodName := ⟨RX4, "among", "(III)I"⟩
abbrev cX4_isStream : ByteArray := prog_1_method_16_code
def yX4_isStream : MethodName := ⟨RX4, "isStream", "(I)Z"⟩
abbrev cX4_openStream : ByteArray := prog_1_method_17_code
def yX4_openStream : MethodName := ⟨RX4, "openStream", "(I)LSignForms$Stream;"⟩
abbrev cX4_isWritable : ByteArray := prog_1_method_18_code
def yX4_isWritable : MethodName := ⟨RX4, "isWritable", "(I)Z"⟩
abbrev cX4_side : ByteArray := prog_1_method_19_code
def yX4_side : MethodName := ⟨RX4, "side", "(JJ)I"⟩
abbrev cX4_rank : ByteArray := prog_1_method_20_code
def yX4_rank : MethodName := ⟨RX4, "rank", "(II)J"⟩
abbrev cX4_turned : ByteArray := prog_1_method_21_code
def yX4_turned : MethodName := ⟨RX4, "turned", "(I)I"⟩
abbrev cX4_bytesIn : ByteArray := prog_1_method_22_code
def yX4_bytesIn : MethodName := ⟨RX4, "bytesIn", "(II)I"⟩
abbrev cX4_bytesBelowHalved : ByteArray := prog_1_method_23_code
def yX4_bytesBelowHalved : MethodName := ⟨RX4, "bytesBelowHalved", "(I)I"⟩
def RX5 : String := "SignFormsModel"
def TX5 : u_T := fun k => match k with
  | 0 => ("SignFormsModel", "isOpen", "[Z", true)
  | 1 => ("SignFormsModel", "isEnded", "[Z", true)
  | 2 => ("SignFormsModel", "told", "[I", true)
  | 3 => ("SignFormsModel", "form", "[I", true)
  | 4 => ("SignFormsModel", "policy", "[I", true)
  | 5 => ("SignFormsModel", "came", "[I", true)
  | 6 => ("SignFormsModel", "many", "[I", true)
  | 7 => ("SignFormsModel", "value", "[I", true)
  | 8 => ("SignFormsModel", "place", "[I", true)
  | 9 => ("SignFormsModel", "length", "[I", true)
  | 10 => ("SignFormsModel", "isMade", "[Z", true)
  | 11 => ("SignFormsModel", "signs", "[I", true)
  | 12 => ("SignFormsModel", "subparts", "[I", true)
  | 13 => ("SignFormsModel", "open", "[I", true)
  | 14 => ("SignFormsModel", "broken", "[I", true)
  | 15 => ("SignFormsModel", "firstSubpart", "[I", true)
  | 16 => ("SignFormsModel", "isMarked", "[Z", true)
  | 17 => ("SignFormsModel", "out", "[I", true)
  | 18 => ("SignFormsModel", "outSize", "I", false)
  | 19 => ("SignFormsModel", "row", "[I", true)
  | 20 => ("SignFormsModel", "partLength", "I", false)
  | 21 => ("SignFormsModel", "partValue", "I", false)
  | _ => ("SignFormsModel", "written", "I", false)
def tyX5 : Nat → FieldType := fun k => match k with
  | 0 => .array .boolean
  | 1 => .array .boolean
  | 2 => .array .int
  | 3 => .array .int
  | 4 => .array .int
  | 5 => .array .int
  | 6 => .array .int
  | 7 => .array .int
  | 8 => .array .int
  | 9 => .array .int
  | 10 => .array .boolean
  | 11 => .array .int
  | 12 => .array .int
  | 13 => .array .int
  | 14 => .array .int
  | 15 => .array .int
  | 16 => .array .boolean
  | 17 => .array .int
  | 18 => .int
  | 19 => .array .int
  | 20 => .int
  | 21 => .int
  | _ => .int
abbrev wsX50 : List Cond := u_ws RX5 TX5 23
theorem nmX5 : ∀ a, a < 23 → ∀ b, b < 23 → a ≠ b → (TX5 a).2.1 ≠ (TX5 b).2.1 := by decide +kernel
theorem tyX5_ok : ∀ k, k < 23 → parseFieldDescriptor (TX5 k).2.2.1 = some (tyX5 k) := by decide +kernel
abbrev cX5_init : ByteArray := prog_7_method_1_code
def yX5_init : MethodName := ⟨RX5, "<init>", "()V"⟩
abbrev cX5_isStream : ByteArray := prog_7_method_2_code
def yX5_isStream : MethodName := ⟨RX5, "isStream", "(I)Z"⟩
abbrev cX5_isForm : ByteArray := prog_7_method_3_code
def yX5_isForm : MethodName := ⟨RX5, "isForm", "(I)Z"⟩
abbrev cX5_isBetween : ByteArray := prog_7_method_4_code
def yX5_isBetween : MethodName := ⟨RX5, "isBetween", "(III)Z"⟩
abbrev cX5_part : ByteArray := prog_7_method_5_code
def yX5_part : MethodName := ⟨RX5, "part", "(II)I"⟩
abbrev cX5_partAt : ByteArray := prog_7_method_6_code
def yX5_partAt : MethodName := ⟨RX5, "partAt", "(IIIZ)I"⟩
abbrev cX5_unitAt : ByteArray := prog_7_method_7_code
def yX5_unitAt : MethodName := ⟨RX5, "unitAt", "(II)I"⟩
abbrev cX5_pairsAt : ByteArray := prog_7_method_8_code
def yX5_pairsAt : MethodName := ⟨RX5, "pairsAt", "(IIIIZ)I"⟩
abbrev cX5_goesOn : ByteArray := prog_7_method_9_code
def yX5_goesOn : MethodName := ⟨RX5, "goesOn", "(ZII)Z"⟩
abbrev cX5_wanted : ByteArray := prog_7_method_10_code
def yX5_wanted : MethodName := ⟨RX5, "wanted", "(ZII)I"⟩
abbrev cX5_bytesAt : ByteArray := prog_7_method_11_code
def yX5_bytesAt : MethodName := ⟨RX5, "bytesAt", "(ZIIZ)I"⟩
abbrev cX5_numberOf : ByteArray := prog_7_method_12_code
def yX5_numberOf : MethodName := ⟨RX5, "numberOf", "(II)I"⟩
abbrev cX5_numberOf3 : ByteArray := prog_7_method_13_code
def yX5_numberOf3 : MethodName := ⟨RX5, "numberOf3", "(I)I"⟩
abbrev cX5_isBegun : ByteArray := prog_7_method_14_code
def yX5_isBegun : MethodName := ⟨RX5, "isBegun", "(IIIIII)Z"⟩
abbrev cX5_findForm : ByteArray := prog_7_method_15_code
def yX5_findForm : MethodName := ⟨RX5, "findForm", "(IZ)I"⟩
abbrev cX5_add : ByteArray := prog_7_method_16_code
def yX5_add : MethodName := ⟨RX5, "add", "(IIIIZ)V"⟩
abbrev cX5_findAll : ByteArray := prog_7_method_17_code
def yX5_findAll : MethodName := ⟨RX5, "findAll", "(I)V"⟩
abbrev cX5_open : ByteArray := prog_7_method_18_code
def yX5_open : MethodName := ⟨RX5, "open", "(III)Z"⟩
abbrev cX5_takes : ByteArray := prog_7_method_19_code
def yX5_takes : MethodName := ⟨RX5, "takes", "(I)Z"⟩
abbrev cX5_put : ByteArray := prog_7_method_20_code
def yX5_put : MethodName := ⟨RX5, "put", "(IJI)I"⟩
abbrev cX5_pour : ByteArray := prog_7_method_21_code
def yX5_pour : MethodName := ⟨RX5, "pour", "(III)I"⟩
abbrev cX5_end : ByteArray := prog_7_method_22_code
def yX5_end : MethodName := ⟨RX5, "end", "(I)I"⟩
abbrev cX5_about : ByteArray := prog_7_method_23_code
def yX5_about : MethodName := ⟨RX5, "about", "(II)I"⟩
abbrev cX5_isSign : ByteArray := prog_7_method_24_code
def yX5_isSign : MethodName := ⟨RX5, "isSign", "(II)Z"⟩
abbrev cX5_sign : ByteArray := prog_7_method_25_code
def yX5_sign : MethodName := ⟨RX5, "sign", "(II)I"⟩
abbrev cX5_placed : ByteArray := prog_7_method_26_code
def yX5_placed : MethodName := ⟨RX5, "placed", "(III)I"⟩
abbrev cX5_at : ByteArray := prog_7_method_27_code
def yX5_at : MethodName := ⟨RX5, "at", "(II)I"⟩
abbrev cX5_sizeOf : ByteArray := prog_7_method_28_code
def yX5_sizeOf : MethodName := ⟨RX5, "sizeOf", "(II)I"⟩
abbrev cX5_lay : ByteArray := prog_7_method_29_code
def yX5_lay : MethodName := ⟨RX5, "lay", "(I)V"⟩
abbrev cX5_layThree : ByteArray := prog_7_method_30_code
def yX5_layThree : MethodName := ⟨RX5, "layThree", "(I)V"⟩
abbrev cX5_layUnit : ByteArray := prog_7_method_31_code
def yX5_layUnit : MethodName := ⟨RX5, "layUnit", "(II)V"⟩
abbrev cX5_laySign : ByteArray := prog_7_method_32_code
def yX5_laySign : MethodName := ⟨RX5, "laySign", "(II)V"⟩
abbrev cX5_write : ByteArray := prog_7_method_33_code
def yX5_write : MethodName := ⟨RX5, "write", "(IIZ)I"⟩
abbrev cX5_size : ByteArray := prog_7_method_34_code
def yX5_size : MethodName := ⟨RX5, "size", "(IIII)I"⟩
abbrev cX5_out : ByteArray := prog_7_method_35_code
def yX5_out : MethodName := ⟨RX5, "out", "(I)I"⟩
abbrev cX5_check : ByteArray := prog_7_method_36_code
def yX5_check : MethodName := ⟨RX5, "check", "(I)I"⟩
abbrev cX5_compared : ByteArray := prog_7_method_37_code
def yX5_compared : MethodName := ⟨RX5, "compared", "(III)I"⟩
abbrev cX5_order : ByteArray := prog_7_method_38_code
def yX5_order : MethodName := ⟨RX5, "order", "(III)I"⟩
abbrev cX5_among : ByteArray := prog_7_method_39_code
def yX5_among : MethodName := ⟨RX5, "among", "(III)I"⟩
def RJ9 : String := "java/lang/Math"
def TJ9 : u_T := fun k => match k with
  | _ => ("", "", "", false)
def tyJ9 : Nat → FieldType := fun k => match k with
  | _ => .int
abbrev wsJ90 : List Cond := u_ws RJ9 TJ9 0
theorem nmJ9 : ∀ a, a < 0 → ∀ b, b < 0 → a ≠ b → (TJ9 a).2.1 ≠ (TJ9 b).2.1 := by decide +kernel
theorem tyJ9_ok : ∀ k, k < 0 → parseFieldDescriptor (TJ9 k).2.2.1 = some (tyJ9 k) := by decide +kernel
abbrev cJ9_min_7cf53 : ByteArray := prog_8_method_69_code
def yJ9_min_7cf53 : MethodName := ⟨RJ9, "min", "(II)I"⟩
def RL : String := "SignFormsLaw"
abbrev cL_law : ByteArray := code
def yL_law : MethodName := ⟨RL, "law", "([I)Z"⟩
def wsX0_isFirst : List Cond := .code yX0_isFirst cX0_isFirst 1 (some .boolean) :: ([.constant RX0 9 (55296), .constant RX0 10 (56319)])
def wsX0_isSecond : List Cond := .code yX0_isSecond cX0_isSecond 1 (some .boolean) :: ([.constant RX0 11 (56320), .constant RX0 12 (57343)])
def wsX0_firstOf : List Cond := .code yX0_firstOf cX0_firstOf 1 (some .int) :: ([.constant RX0 9 (55296), .constant RX0 13 (65536)])
def wsX0_secondOf : List Cond := .code yX0_secondOf cX0_secondOf 1 (some .int) :: ([.constant RX0 11 (56320), .constant RX0 13 (65536)])
def wsX0_joined : List Cond := .code yX0_joined cX0_joined 2 (some .int) :: ([.constant RX0 13 (65536), .constant RX0 9 (55296), .constant RX0 11 (56320)])
def wsX1_init : List Cond := .code yX1_init cX1_init 1 none :: ([.methodLink RX1 3 objectInit, .instanceMethod objectInit, .code objectInit ⟨#[0xb1]⟩ 1 none, .arrayClass .int, .fieldLink RX1 9 "SignForms$OutRow" "bytes" "[I", .fieldLink RX1 15 "SignForms$OutRow" "count" "I"] ++ wsX10)
def wsX1_byteAt : List Cond := .code yX1_byteAt cX1_byteAt 2 (some .int) :: ([.fieldLink RX1 15 "SignForms$OutRow" "count" "I", .fieldLink RX1 9 "SignForms$OutRow" "bytes" "[I"] ++ wsX10)
def wsX4_bytesBelowHalved : List Cond := .code yX4_bytesBelowHalved cX4_bytesBelowHalved 1 (some .int) :: ([])
def wsX4_bytesIn : List Cond := .code yX4_bytesIn cX4_bytesIn 2 (some .int) :: ([.constant RX4 133 (65536), .methodLink RX4 145 yX4_bytesBelowHalved, .static yX4_bytesBelowHalved, .initialized RX4, .code yX4_bytesBelowHalved cX4_bytesBelowHalved 1 (some .int)])
def wsX1_add : List Cond := .code yX1_add cX1_add 2 none :: ([.fieldLink RX1 15 "SignForms$OutRow" "count" "I", .fieldLink RX1 9 "SignForms$OutRow" "bytes" "[I"] ++ wsX10)
def wsX1_leadOf : List Cond := .code yX1_leadOf cX1_leadOf 1 (some .int) :: ([])
def wsX1_addBytes : List Cond := .code yX1_addBytes cX1_addBytes 4 none :: ([.methodLink RX1 46 yX1_add, .instanceMethod yX1_add, .selects RX1 yX1_add yX1_add, .initialized RX1, .code yX1_add cX1_add 2 none, .fieldLink RX1 15 "SignForms$OutRow" "count" "I", .fieldLink RX1 9 "SignForms$OutRow" "bytes" "[I", .methodLink RX1 50 yX1_leadOf, .static yX1_leadOf, .code yX1_leadOf cX1_leadOf 1 (some .int)] ++ wsX10)
def wsX1_addLowFirst : List Cond := .code yX1_addLowFirst cX1_addLowFirst 4 none :: ([.methodLink RX1 46 yX1_add, .instanceMethod yX1_add, .selects RX1 yX1_add yX1_add, .initialized RX1, .code yX1_add cX1_add 2 none, .fieldLink RX1 15 "SignForms$OutRow" "count" "I", .fieldLink RX1 9 "SignForms$OutRow" "bytes" "[I"] ++ wsX10)
def wsX1_addHighFirst : List Cond := .code yX1_addHighFirst cX1_addHighFirst 4 none :: ([.methodLink RX1 46 yX1_add, .instanceMethod yX1_add, .selects RX1 yX1_add yX1_add, .initialized RX1, .code yX1_add cX1_add 2 none, .fieldLink RX1 15 "SignForms$OutRow" "count" "I", .fieldLink RX1 9 "SignForms$OutRow" "bytes" "[I"] ++ wsX10)
def wsX1_addNumber_r1 : List Cond := [Cond.static yX4_bytesIn, Cond.initialized RX4, Cond.code yX4_bytesIn cX4_bytesIn 2 (some .int), Cond.constant RX4 133 (65536), Cond.methodLink RX4 145 yX4_bytesBelowHalved, Cond.static yX4_bytesBelowHalved, Cond.code yX4_bytesBelowHalved cX4_bytesBelowHalved 1 (some .int), Cond.methodLink RX1 37 yX1_addBytes, Cond.instanceMethod yX1_addBytes, Cond.selects RX1 yX1_addBytes yX1_addBytes, Cond.initialized RX1, Cond.code yX1_addBytes cX1_addBytes 4 none, Cond.methodLink RX1 46 yX1_add, Cond.instanceMethod yX1_add, Cond.selects RX1 yX1_add yX1_add, Cond.code yX1_add cX1_add 2 none, Cond.fieldLink RX1 15 "SignForms$OutRow" "count" "I", Cond.fieldLink RX1 9 "SignForms$OutRow" "bytes" "[I", Cond.methodLink RX1 50 yX1_leadOf, Cond.static yX1_leadOf, Cond.code yX1_leadOf cX1_leadOf 1 (some .int), Cond.methodLink RX1 40 yX1_addLowFirst, Cond.instanceMethod yX1_addLowFirst, Cond.selects RX1 yX1_addLowFirst yX1_addLowFirst]
def wsX1_addNumber_r2 : List Cond := [Cond.code yX1_addLowFirst cX1_addLowFirst 4 none, Cond.methodLink RX1 43 yX1_addHighFirst, Cond.instanceMethod yX1_addHighFirst, Cond.selects RX1 yX1_addHighFirst yX1_addHighFirst, Cond.code yX1_addHighFirst cX1_addHighFirst 4 none]
def wsX1_addNumber : List Cond := .code yX1_addNumber cX1_addNumber 4 none :: ((wsX1_addNumber_r1 ++ wsX1_addNumber_r2) ++ wsX10)
def wsX1_addSign_r1 : List Cond := [Cond.constant RX1 19 (65536), Cond.methodLink RX1 20 yX0_firstOf, Cond.static yX0_firstOf, Cond.initialized RX0, Cond.code yX0_firstOf cX0_firstOf 1 (some .int), Cond.constant RX0 9 (55296), Cond.constant RX0 13 (65536), Cond.methodLink RX1 26 yX1_addNumber, Cond.instanceMethod yX1_addNumber, Cond.selects RX1 yX1_addNumber yX1_addNumber, Cond.initialized RX1, Cond.code yX1_addNumber cX1_addNumber 4 none, Cond.static yX4_bytesIn, Cond.initialized RX4, Cond.code yX4_bytesIn cX4_bytesIn 2 (some .int), Cond.constant RX4 133 (65536), Cond.methodLink RX4 145 yX4_bytesBelowHalved, Cond.static yX4_bytesBelowHalved, Cond.code yX4_bytesBelowHalved cX4_bytesBelowHalved 1 (some .int), Cond.methodLink RX1 37 yX1_addBytes, Cond.instanceMethod yX1_addBytes, Cond.selects RX1 yX1_addBytes yX1_addBytes, Cond.code yX1_addBytes cX1_addBytes 4 none, Cond.methodLink RX1 46 yX1_add]
def wsX1_addSign_r2 : List Cond := [Cond.instanceMethod yX1_add, Cond.selects RX1 yX1_add yX1_add, Cond.code yX1_add cX1_add 2 none, Cond.fieldLink RX1 15 "SignForms$OutRow" "count" "I", Cond.fieldLink RX1 9 "SignForms$OutRow" "bytes" "[I", Cond.methodLink RX1 50 yX1_leadOf, Cond.static yX1_leadOf, Cond.code yX1_leadOf cX1_leadOf 1 (some .int), Cond.methodLink RX1 40 yX1_addLowFirst, Cond.instanceMethod yX1_addLowFirst, Cond.selects RX1 yX1_addLowFirst yX1_addLowFirst, Cond.code yX1_addLowFirst cX1_addLowFirst 4 none, Cond.methodLink RX1 43 yX1_addHighFirst, Cond.instanceMethod yX1_addHighFirst, Cond.selects RX1 yX1_addHighFirst yX1_addHighFirst, Cond.code yX1_addHighFirst cX1_addHighFirst 4 none, Cond.methodLink RX1 30 yX0_secondOf, Cond.static yX0_secondOf, Cond.code yX0_secondOf cX0_secondOf 1 (some .int), Cond.constant RX0 11 (56320)]
def wsX1_addSign : List Cond := .code yX1_addSign cX1_addSign 4 none :: ((wsX1_addSign_r1 ++ wsX1_addSign_r2) ++ wsX10)
def wsX2_init : List Cond := .code yX2_init cX2_init 1 none :: ([.methodLink RX2 3 objectInit, .instanceMethod objectInit, .code objectInit ⟨#[0xb1]⟩ 1 none])
def wsX2_tellNothing : List Cond := .code yX2_tellNothing cX2_tellNothing 1 none :: ([.fieldLink RX2 36 "SignForms$Part" "isSign" "Z", .fieldLink RX2 40 "SignForms$Part" "sign" "I", .fieldLink RX2 24 "SignForms$Part" "length" "I"] ++ wsX20)
def wsX2_neededBy : List Cond := .code yX2_neededBy cX2_neededBy 2 (some .int) :: ([])
def wsX2_tellSubpart : List Cond := .code yX2_tellSubpart cX2_tellSubpart 2 none :: ([.fieldLink RX2 36 "SignForms$Part" "isSign" "Z", .fieldLink RX2 40 "SignForms$Part" "sign" "I", .fieldLink RX2 24 "SignForms$Part" "length" "I"] ++ wsX20)
def wsX2_leastBehind : List Cond := .code yX2_leastBehind cX2_leastBehind 1 (some .int) :: ([])
def wsX2_mostBehind : List Cond := .code yX2_mostBehind cX2_mostBehind 2 (some .int) :: ([])
def wsX2_tellSign : List Cond := .code yX2_tellSign cX2_tellSign 3 none :: ([.fieldLink RX2 36 "SignForms$Part" "isSign" "Z", .fieldLink RX2 40 "SignForms$Part" "sign" "I", .fieldLink RX2 24 "SignForms$Part" "length" "I"] ++ wsX20)
def wsX2_lookAtSecondHalf : List Cond := .code yX2_lookAtSecondHalf cX2_lookAtSecondHalf 9 none :: ([.fieldLink RX2 73 "SignForms$Part" "SECOND_HALF_LEAST" "[I", .fieldLink RX2 77 "SignForms$Part" "SECOND_HALF_MOST" "[I", .constant RX2 80 (65535), .methodLink RX2 32 yX2_tellSubpart, .instanceMethod yX2_tellSubpart, .selects RX2 yX2_tellSubpart yX2_tellSubpart, .initialized RX2, .code yX2_tellSubpart cX2_tellSubpart 2 none, .fieldLink RX2 36 "SignForms$Part" "isSign" "Z", .fieldLink RX2 40 "SignForms$Part" "sign" "I", .fieldLink RX2 24 "SignForms$Part" "length" "I", .methodLink RX2 81 yX0_joined, .static yX0_joined, .initialized RX0, .code yX0_joined cX0_joined 2 (some .int), .constant RX0 13 (65536), .constant RX0 9 (55296), .constant RX0 11 (56320), .methodLink RX2 69 yX2_tellSign, .instanceMethod yX2_tellSign, .selects RX2 yX2_tellSign yX2_tellSign, .code yX2_tellSign cX2_tellSign 3 none] ++ wsX20)
def wsX2_lookAtBytes_r1 : List Cond := [Cond.methodLink RX2 48 yX2_neededBy, Cond.static yX2_neededBy, Cond.initialized RX2, Cond.code yX2_neededBy cX2_neededBy 2 (some .int), Cond.methodLink RX2 32 yX2_tellSubpart, Cond.instanceMethod yX2_tellSubpart, Cond.selects RX2 yX2_tellSubpart yX2_tellSubpart, Cond.code yX2_tellSubpart cX2_tellSubpart 2 none, Cond.fieldLink RX2 36 "SignForms$Part" "isSign" "Z", Cond.fieldLink RX2 40 "SignForms$Part" "sign" "I", Cond.fieldLink RX2 24 "SignForms$Part" "length" "I", Cond.methodLink RX2 52 yX2_leastBehind, Cond.static yX2_leastBehind, Cond.code yX2_leastBehind cX2_leastBehind 1 (some .int), Cond.methodLink RX2 56 yX2_mostBehind, Cond.static yX2_mostBehind, Cond.code yX2_mostBehind cX2_mostBehind 2 (some .int), Cond.methodLink RX2 59 yX0_isFirst, Cond.static yX0_isFirst, Cond.initialized RX0, Cond.code yX0_isFirst cX0_isFirst 1 (some .boolean), Cond.constant RX0 9 (55296), Cond.constant RX0 10 (56319), Cond.methodLink RX2 65 yX2_lookAtSecondHalf]
def wsX2_lookAtBytes_r2 : List Cond := [Cond.instanceMethod yX2_lookAtSecondHalf, Cond.selects RX2 yX2_lookAtSecondHalf yX2_lookAtSecondHalf, Cond.code yX2_lookAtSecondHalf cX2_lookAtSecondHalf 9 none, Cond.fieldLink RX2 73 "SignForms$Part" "SECOND_HALF_LEAST" "[I", Cond.fieldLink RX2 77 "SignForms$Part" "SECOND_HALF_MOST" "[I", Cond.constant RX2 80 (65535), Cond.methodLink RX2 81 yX0_joined, Cond.static yX0_joined, Cond.code yX0_joined cX0_joined 2 (some .int), Cond.constant RX0 13 (65536), Cond.constant RX0 11 (56320), Cond.methodLink RX2 69 yX2_tellSign, Cond.instanceMethod yX2_tellSign, Cond.selects RX2 yX2_tellSign yX2_tellSign, Cond.code yX2_tellSign cX2_tellSign 3 none]
def wsX2_lookAtBytes : List Cond := .code yX2_lookAtBytes cX2_lookAtBytes 12 none :: ((wsX2_lookAtBytes_r1 ++ wsX2_lookAtBytes_r2) ++ wsX20)
def wsX2_unit : List Cond := .code yX2_unit cX2_unit 7 (some .int) :: ([])
def wsX2_lookAtPairs_r1 : List Cond := [Cond.methodLink RX2 84 yX2_unit, Cond.static yX2_unit, Cond.initialized RX2, Cond.code yX2_unit cX2_unit 7 (some .int), Cond.methodLink RX2 88 yX0_isSecond, Cond.static yX0_isSecond, Cond.initialized RX0, Cond.code yX0_isSecond cX0_isSecond 1 (some .boolean), Cond.constant RX0 11 (56320), Cond.constant RX0 12 (57343), Cond.methodLink RX2 32 yX2_tellSubpart, Cond.instanceMethod yX2_tellSubpart, Cond.selects RX2 yX2_tellSubpart yX2_tellSubpart, Cond.code yX2_tellSubpart cX2_tellSubpart 2 none, Cond.fieldLink RX2 36 "SignForms$Part" "isSign" "Z", Cond.fieldLink RX2 40 "SignForms$Part" "sign" "I", Cond.fieldLink RX2 24 "SignForms$Part" "length" "I", Cond.methodLink RX2 59 yX0_isFirst, Cond.static yX0_isFirst, Cond.code yX0_isFirst cX0_isFirst 1 (some .boolean), Cond.constant RX0 9 (55296), Cond.constant RX0 10 (56319), Cond.methodLink RX2 69 yX2_tellSign, Cond.instanceMethod yX2_tellSign]
def wsX2_lookAtPairs_r2 : List Cond := [Cond.selects RX2 yX2_tellSign yX2_tellSign, Cond.code yX2_tellSign cX2_tellSign 3 none, Cond.methodLink RX2 81 yX0_joined, Cond.static yX0_joined, Cond.code yX0_joined cX0_joined 2 (some .int), Cond.constant RX0 13 (65536)]
def wsX2_lookAtPairs : List Cond := .code yX2_lookAtPairs cX2_lookAtPairs 7 none :: ((wsX2_lookAtPairs_r1 ++ wsX2_lookAtPairs_r2) ++ wsX20)
def wsX2_lookAtFour_r1 : List Cond := [Cond.constant RX2 91 (1114111), Cond.methodLink RX2 84 yX2_unit, Cond.static yX2_unit, Cond.initialized RX2, Cond.code yX2_unit cX2_unit 7 (some .int), Cond.methodLink RX2 59 yX0_isFirst, Cond.static yX0_isFirst, Cond.initialized RX0, Cond.code yX0_isFirst cX0_isFirst 1 (some .boolean), Cond.constant RX0 9 (55296), Cond.constant RX0 10 (56319), Cond.methodLink RX2 88 yX0_isSecond, Cond.static yX0_isSecond, Cond.code yX0_isSecond cX0_isSecond 1 (some .boolean), Cond.constant RX0 11 (56320), Cond.constant RX0 12 (57343), Cond.methodLink RX2 69 yX2_tellSign, Cond.instanceMethod yX2_tellSign, Cond.selects RX2 yX2_tellSign yX2_tellSign, Cond.code yX2_tellSign cX2_tellSign 3 none, Cond.fieldLink RX2 36 "SignForms$Part" "isSign" "Z", Cond.fieldLink RX2 40 "SignForms$Part" "sign" "I", Cond.fieldLink RX2 24 "SignForms$Part" "length" "I", Cond.methodLink RX2 32 yX2_tellSubpart]
def wsX2_lookAtFour_r2 : List Cond := [Cond.instanceMethod yX2_tellSubpart, Cond.selects RX2 yX2_tellSubpart yX2_tellSubpart, Cond.code yX2_tellSubpart cX2_tellSubpart 2 none]
def wsX2_lookAtFour : List Cond := .code yX2_lookAtFour cX2_lookAtFour 7 none :: ((wsX2_lookAtFour_r1 ++ wsX2_lookAtFour_r2) ++ wsX20)
def wsX2_cutLength : List Cond := .code yX2_cutLength cX2_cutLength 3 (some .int) :: ([.methodLink RX2 43 Lib.Math.min.name, .static Lib.Math.min.name, .initialized "java/lang/Math", .code Lib.Math.min.name Lib.Math.min.code 2 (some .int)])
def wsX2_look_r1 : List Cond := [Cond.fieldLink RX2 24 "SignForms$Part" "length" "I", Cond.methodLink RX2 9 yX2_tellNothing, Cond.instanceMethod yX2_tellNothing, Cond.selects RX2 yX2_tellNothing yX2_tellNothing, Cond.initialized RX2, Cond.code yX2_tellNothing cX2_tellNothing 1 none, Cond.fieldLink RX2 36 "SignForms$Part" "isSign" "Z", Cond.fieldLink RX2 40 "SignForms$Part" "sign" "I", Cond.methodLink RX2 14 yX2_lookAtBytes, Cond.instanceMethod yX2_lookAtBytes, Cond.selects RX2 yX2_lookAtBytes yX2_lookAtBytes, Cond.code yX2_lookAtBytes cX2_lookAtBytes 12 none, Cond.methodLink RX2 48 yX2_neededBy, Cond.static yX2_neededBy, Cond.code yX2_neededBy cX2_neededBy 2 (some .int), Cond.methodLink RX2 32 yX2_tellSubpart, Cond.instanceMethod yX2_tellSubpart, Cond.selects RX2 yX2_tellSubpart yX2_tellSubpart, Cond.code yX2_tellSubpart cX2_tellSubpart 2 none, Cond.methodLink RX2 52 yX2_leastBehind, Cond.static yX2_leastBehind, Cond.code yX2_leastBehind cX2_leastBehind 1 (some .int), Cond.methodLink RX2 56 yX2_mostBehind, Cond.static yX2_mostBehind]
def wsX2_look_r2 : List Cond := [Cond.code yX2_mostBehind cX2_mostBehind 2 (some .int), Cond.methodLink RX2 59 yX0_isFirst, Cond.static yX0_isFirst, Cond.initialized RX0, Cond.code yX0_isFirst cX0_isFirst 1 (some .boolean), Cond.constant RX0 9 (55296), Cond.constant RX0 10 (56319), Cond.methodLink RX2 65 yX2_lookAtSecondHalf, Cond.instanceMethod yX2_lookAtSecondHalf, Cond.selects RX2 yX2_lookAtSecondHalf yX2_lookAtSecondHalf, Cond.code yX2_lookAtSecondHalf cX2_lookAtSecondHalf 9 none, Cond.fieldLink RX2 73 "SignForms$Part" "SECOND_HALF_LEAST" "[I", Cond.fieldLink RX2 77 "SignForms$Part" "SECOND_HALF_MOST" "[I", Cond.constant RX2 80 (65535), Cond.methodLink RX2 81 yX0_joined, Cond.static yX0_joined, Cond.code yX0_joined cX0_joined 2 (some .int), Cond.constant RX0 13 (65536), Cond.constant RX0 11 (56320), Cond.methodLink RX2 69 yX2_tellSign, Cond.instanceMethod yX2_tellSign, Cond.selects RX2 yX2_tellSign yX2_tellSign, Cond.code yX2_tellSign cX2_tellSign 3 none, Cond.methodLink RX2 18 yX2_lookAtPairs]
def wsX2_look_r3 : List Cond := [Cond.instanceMethod yX2_lookAtPairs, Cond.selects RX2 yX2_lookAtPairs yX2_lookAtPairs, Cond.code yX2_lookAtPairs cX2_lookAtPairs 7 none, Cond.methodLink RX2 84 yX2_unit, Cond.static yX2_unit, Cond.code yX2_unit cX2_unit 7 (some .int), Cond.methodLink RX2 88 yX0_isSecond, Cond.static yX0_isSecond, Cond.code yX0_isSecond cX0_isSecond 1 (some .boolean), Cond.constant RX0 12 (57343), Cond.methodLink RX2 21 yX2_lookAtFour, Cond.instanceMethod yX2_lookAtFour, Cond.selects RX2 yX2_lookAtFour yX2_lookAtFour, Cond.code yX2_lookAtFour cX2_lookAtFour 7 none, Cond.constant RX2 91 (1114111), Cond.methodLink RX2 28 yX2_cutLength, Cond.static yX2_cutLength, Cond.code yX2_cutLength cX2_cutLength 3 (some .int), Cond.methodLink RX2 43 Lib.Math.min.name, Cond.static Lib.Math.min.name, Cond.initialized "java/lang/Math", Cond.code Lib.Math.min.name Lib.Math.min.code 2 (some .int)]
def wsX2_look : List Cond := .code yX2_look cX2_look 6 none :: ((wsX2_look_r1 ++ (wsX2_look_r2 ++ wsX2_look_r3)) ++ wsX20)
def wsX3_init : List Cond := .code yX3_init cX3_init 1 none :: ([.methodLink RX3 3 objectInit, .instanceMethod objectInit, .code objectInit ⟨#[0xb1]⟩ 1 none, .arrayClass .int, .fieldLink RX3 9 "SignForms$Stream" "bytes" "[I", .fieldLink RX3 15 "SignForms$Stream" "signs" "[I", .fieldLink RX3 18 "SignForms$Stream" "places" "[I", .fieldLink RX3 21 "SignForms$Stream" "lengths" "[I", .fieldLink RX3 24 "SignForms$Stream" "replaced" "[I", .classLink RX3 27 RX2, .instantiable RX2 3, .initialized RX2, .fieldLink RX3 30 "SignForms$Stream" "part" "LSignForms$Part;", .instanceMethod yX2_init, .code yX2_init cX2_init 1 none, .methodLink RX2 3 objectInit] ++ wsX30 ++ wsX20)
def wsX3_begin : List Cond := .code yX3_begin cX3_begin 3 none :: ([.fieldLink RX3 34 "SignForms$Stream" "form" "I", .fieldLink RX3 38 "SignForms$Stream" "policy" "I", .fieldLink RX3 41 "SignForms$Stream" "came" "I", .fieldLink RX3 44 "SignForms$Stream" "decided" "I", .fieldLink RX3 47 "SignForms$Stream" "signCount" "I", .fieldLink RX3 50 "SignForms$Stream" "subparts" "I", .fieldLink RX3 53 "SignForms$Stream" "firstSubpart" "I", .fieldLink RX3 56 "SignForms$Stream" "brokenAt" "I", .fieldLink RX3 59 "SignForms$Stream" "marked" "Z", .fieldLink RX3 63 "SignForms$Stream" "ended" "Z"] ++ wsX30)
def wsX3_hasRoomFor : List Cond := .code yX3_hasRoomFor cX3_hasRoomFor 2 (some .boolean) :: ([.fieldLink RX3 9 "SignForms$Stream" "bytes" "[I", .fieldLink RX3 41 "SignForms$Stream" "came" "I"] ++ wsX30)
def wsX3_take : List Cond := .code yX3_take cX3_take 2 none :: ([.fieldLink RX3 41 "SignForms$Stream" "came" "I", .fieldLink RX3 9 "SignForms$Stream" "bytes" "[I"] ++ wsX30)
def wsX3_agrees : List Cond := .code yX3_agrees cX3_agrees 4 (some .boolean) :: ([.fieldLink RX3 9 "SignForms$Stream" "bytes" "[I", .fieldLink RX3 88 "SignForms$Stream" "MARK_BYTES" "[I"] ++ wsX30)
def wsX3_findForm : List Cond := .code yX3_findForm cX3_findForm 3 none :: ([.fieldLink RX3 72 "SignForms$Stream" "MARK_FORMS" "[I", .fieldLink RX3 75 "SignForms$Stream" "MARK_LENGTHS" "[I", .fieldLink RX3 41 "SignForms$Stream" "came" "I", .methodLink RX3 78 Lib.Math.min.name, .static Lib.Math.min.name, .initialized "java/lang/Math", .code Lib.Math.min.name Lib.Math.min.code 2 (some .int), .fieldLink RX3 34 "SignForms$Stream" "form" "I", .fieldLink RX3 59 "SignForms$Stream" "marked" "Z", .fieldLink RX3 44 "SignForms$Stream" "decided" "I", .fieldLink RX3 63 "SignForms$Stream" "ended" "Z", .methodLink RX3 84 yX3_agrees, .instanceMethod yX3_agrees, .selects RX3 yX3_agrees yX3_agrees, .initialized RX3, .code yX3_agrees cX3_agrees 4 (some .boolean), .fieldLink RX3 9 "SignForms$Stream" "bytes" "[I", .fieldLink RX3 88 "SignForms$Stream" "MARK_BYTES" "[I"] ++ wsX30)
def wsX3_addSign : List Cond := .code yX3_addSign cX3_addSign 3 none :: ([.fieldLink RX3 47 "SignForms$Stream" "signCount" "I", .fieldLink RX3 15 "SignForms$Stream" "signs" "[I", .fieldLink RX3 18 "SignForms$Stream" "places" "[I", .fieldLink RX3 44 "SignForms$Stream" "decided" "I", .fieldLink RX3 21 "SignForms$Stream" "lengths" "[I", .fieldLink RX3 30 "SignForms$Stream" "part" "LSignForms$Part;", .fieldLink RX3 95 "SignForms$Part" "length" "I", .fieldLink RX3 24 "SignForms$Stream" "replaced" "[I"] ++ wsX30 ++ wsX20)
def wsX3_meetSubpart : List Cond := .code yX3_meetSubpart cX3_meetSubpart 1 none :: ([.fieldLink RX3 50 "SignForms$Stream" "subparts" "I", .fieldLink RX3 53 "SignForms$Stream" "firstSubpart" "I", .fieldLink RX3 44 "SignForms$Stream" "decided" "I", .fieldLink RX3 38 "SignForms$Stream" "policy" "I", .constant RX3 111 (65533), .fieldLink RX3 56 "SignForms$Stream" "brokenAt" "I", .methodLink RX3 104 yX3_addSign, .instanceMethod yX3_addSign, .selects RX3 yX3_addSign yX3_addSign, .initialized RX3, .code yX3_addSign cX3_addSign 3 none, .fieldLink RX3 47 "SignForms$Stream" "signCount" "I", .fieldLink RX3 15 "SignForms$Stream" "signs" "[I", .fieldLink RX3 18 "SignForms$Stream" "places" "[I", .fieldLink RX3 21 "SignForms$Stream" "lengths" "[I", .fieldLink RX3 30 "SignForms$Stream" "part" "LSignForms$Part;", .fieldLink RX3 95 "SignForms$Part" "length" "I", .fieldLink RX3 24 "SignForms$Stream" "replaced" "[I"] ++ wsX30 ++ wsX20)
def wsX3_tellParts_r1 : List Cond := [Cond.fieldLink RX3 44 "SignForms$Stream" "decided" "I", Cond.fieldLink RX3 41 "SignForms$Stream" "came" "I", Cond.fieldLink RX3 56 "SignForms$Stream" "brokenAt" "I", Cond.fieldLink RX3 30 "SignForms$Stream" "part" "LSignForms$Part;", Cond.fieldLink RX3 9 "SignForms$Stream" "bytes" "[I", Cond.fieldLink RX3 34 "SignForms$Stream" "form" "I", Cond.fieldLink RX3 63 "SignForms$Stream" "ended" "Z", Cond.fieldLink RX3 95 "SignForms$Part" "length" "I", Cond.fieldLink RX3 98 "SignForms$Part" "isSign" "Z", Cond.fieldLink RX3 101 "SignForms$Part" "sign" "I", Cond.methodLink RX3 91 yX2_look, Cond.instanceMethod yX2_look, Cond.selects RX2 yX2_look yX2_look, Cond.initialized RX2, Cond.code yX2_look cX2_look 6 none, Cond.fieldLink RX2 24 "SignForms$Part" "length" "I", Cond.methodLink RX2 9 yX2_tellNothing, Cond.instanceMethod yX2_tellNothing, Cond.selects RX2 yX2_tellNothing yX2_tellNothing, Cond.code yX2_tellNothing cX2_tellNothing 1 none, Cond.fieldLink RX2 36 "SignForms$Part" "isSign" "Z", Cond.fieldLink RX2 40 "SignForms$Part" "sign" "I", Cond.methodLink RX2 14 yX2_lookAtBytes, Cond.instanceMethod yX2_lookAtBytes]
def wsX3_tellParts_r2 : List Cond := [Cond.selects RX2 yX2_lookAtBytes yX2_lookAtBytes, Cond.code yX2_lookAtBytes cX2_lookAtBytes 12 none, Cond.methodLink RX2 48 yX2_neededBy, Cond.static yX2_neededBy, Cond.code yX2_neededBy cX2_neededBy 2 (some .int), Cond.methodLink RX2 32 yX2_tellSubpart, Cond.instanceMethod yX2_tellSubpart, Cond.selects RX2 yX2_tellSubpart yX2_tellSubpart, Cond.code yX2_tellSubpart cX2_tellSubpart 2 none, Cond.methodLink RX2 52 yX2_leastBehind, Cond.static yX2_leastBehind, Cond.code yX2_leastBehind cX2_leastBehind 1 (some .int), Cond.methodLink RX2 56 yX2_mostBehind, Cond.static yX2_mostBehind, Cond.code yX2_mostBehind cX2_mostBehind 2 (some .int), Cond.methodLink RX2 59 yX0_isFirst, Cond.static yX0_isFirst, Cond.initialized RX0, Cond.code yX0_isFirst cX0_isFirst 1 (some .boolean), Cond.constant RX0 9 (55296), Cond.constant RX0 10 (56319), Cond.methodLink RX2 65 yX2_lookAtSecondHalf, Cond.instanceMethod yX2_lookAtSecondHalf, Cond.selects RX2 yX2_lookAtSecondHalf yX2_lookAtSecondHalf]
def wsX3_tellParts_r3 : List Cond := [Cond.code yX2_lookAtSecondHalf cX2_lookAtSecondHalf 9 none, Cond.fieldLink RX2 73 "SignForms$Part" "SECOND_HALF_LEAST" "[I", Cond.fieldLink RX2 77 "SignForms$Part" "SECOND_HALF_MOST" "[I", Cond.constant RX2 80 (65535), Cond.methodLink RX2 81 yX0_joined, Cond.static yX0_joined, Cond.code yX0_joined cX0_joined 2 (some .int), Cond.constant RX0 13 (65536), Cond.constant RX0 11 (56320), Cond.methodLink RX2 69 yX2_tellSign, Cond.instanceMethod yX2_tellSign, Cond.selects RX2 yX2_tellSign yX2_tellSign, Cond.code yX2_tellSign cX2_tellSign 3 none, Cond.methodLink RX2 18 yX2_lookAtPairs, Cond.instanceMethod yX2_lookAtPairs, Cond.selects RX2 yX2_lookAtPairs yX2_lookAtPairs, Cond.code yX2_lookAtPairs cX2_lookAtPairs 7 none, Cond.methodLink RX2 84 yX2_unit, Cond.static yX2_unit, Cond.code yX2_unit cX2_unit 7 (some .int), Cond.methodLink RX2 88 yX0_isSecond, Cond.static yX0_isSecond, Cond.code yX0_isSecond cX0_isSecond 1 (some .boolean), Cond.constant RX0 12 (57343)]
def wsX3_tellParts_r4 : List Cond := [Cond.methodLink RX2 21 yX2_lookAtFour, Cond.instanceMethod yX2_lookAtFour, Cond.selects RX2 yX2_lookAtFour yX2_lookAtFour, Cond.code yX2_lookAtFour cX2_lookAtFour 7 none, Cond.constant RX2 91 (1114111), Cond.methodLink RX2 28 yX2_cutLength, Cond.static yX2_cutLength, Cond.code yX2_cutLength cX2_cutLength 3 (some .int), Cond.methodLink RX2 43 Lib.Math.min.name, Cond.static Lib.Math.min.name, Cond.initialized "java/lang/Math", Cond.code Lib.Math.min.name Lib.Math.min.code 2 (some .int), Cond.methodLink RX3 104 yX3_addSign, Cond.instanceMethod yX3_addSign, Cond.selects RX3 yX3_addSign yX3_addSign, Cond.initialized RX3, Cond.code yX3_addSign cX3_addSign 3 none, Cond.fieldLink RX3 47 "SignForms$Stream" "signCount" "I", Cond.fieldLink RX3 15 "SignForms$Stream" "signs" "[I", Cond.fieldLink RX3 18 "SignForms$Stream" "places" "[I", Cond.fieldLink RX3 21 "SignForms$Stream" "lengths" "[I", Cond.fieldLink RX3 24 "SignForms$Stream" "replaced" "[I", Cond.methodLink RX3 108 yX3_meetSubpart, Cond.instanceMethod yX3_meetSubpart]
def wsX3_tellParts_r5 : List Cond := [Cond.selects RX3 yX3_meetSubpart yX3_meetSubpart, Cond.code yX3_meetSubpart cX3_meetSubpart 1 none, Cond.fieldLink RX3 50 "SignForms$Stream" "subparts" "I", Cond.fieldLink RX3 53 "SignForms$Stream" "firstSubpart" "I", Cond.fieldLink RX3 38 "SignForms$Stream" "policy" "I", Cond.constant RX3 111 (65533)]
def wsX3_tellParts : List Cond := .code yX3_tellParts cX3_tellParts 2 none :: ((wsX3_tellParts_r1 ++ (wsX3_tellParts_r2 ++ (wsX3_tellParts_r3 ++ (wsX3_tellParts_r4 ++ wsX3_tellParts_r5)))) ++ wsX30 ++ wsX20)
def wsX3_decide_r1 : List Cond := [Cond.fieldLink RX3 34 "SignForms$Stream" "form" "I", Cond.methodLink RX3 66 yX3_findForm, Cond.instanceMethod yX3_findForm, Cond.selects RX3 yX3_findForm yX3_findForm, Cond.initialized RX3, Cond.code yX3_findForm cX3_findForm 3 none, Cond.fieldLink RX3 72 "SignForms$Stream" "MARK_FORMS" "[I", Cond.fieldLink RX3 75 "SignForms$Stream" "MARK_LENGTHS" "[I", Cond.fieldLink RX3 41 "SignForms$Stream" "came" "I", Cond.methodLink RX3 78 Lib.Math.min.name, Cond.static Lib.Math.min.name, Cond.initialized "java/lang/Math", Cond.code Lib.Math.min.name Lib.Math.min.code 2 (some .int), Cond.fieldLink RX3 59 "SignForms$Stream" "marked" "Z", Cond.fieldLink RX3 44 "SignForms$Stream" "decided" "I", Cond.fieldLink RX3 63 "SignForms$Stream" "ended" "Z", Cond.methodLink RX3 84 yX3_agrees, Cond.instanceMethod yX3_agrees, Cond.selects RX3 yX3_agrees yX3_agrees, Cond.code yX3_agrees cX3_agrees 4 (some .boolean), Cond.fieldLink RX3 9 "SignForms$Stream" "bytes" "[I", Cond.fieldLink RX3 88 "SignForms$Stream" "MARK_BYTES" "[I", Cond.methodLink RX3 69 yX3_tellParts, Cond.instanceMethod yX3_tellParts]
def wsX3_decide_r2 : List Cond := [Cond.selects RX3 yX3_tellParts yX3_tellParts, Cond.code yX3_tellParts cX3_tellParts 2 none, Cond.fieldLink RX3 56 "SignForms$Stream" "brokenAt" "I", Cond.fieldLink RX3 30 "SignForms$Stream" "part" "LSignForms$Part;", Cond.fieldLink RX3 95 "SignForms$Part" "length" "I", Cond.fieldLink RX3 98 "SignForms$Part" "isSign" "Z", Cond.fieldLink RX3 101 "SignForms$Part" "sign" "I", Cond.methodLink RX3 91 yX2_look, Cond.instanceMethod yX2_look, Cond.selects RX2 yX2_look yX2_look, Cond.initialized RX2, Cond.code yX2_look cX2_look 6 none, Cond.fieldLink RX2 24 "SignForms$Part" "length" "I", Cond.methodLink RX2 9 yX2_tellNothing, Cond.instanceMethod yX2_tellNothing, Cond.selects RX2 yX2_tellNothing yX2_tellNothing, Cond.code yX2_tellNothing cX2_tellNothing 1 none, Cond.fieldLink RX2 36 "SignForms$Part" "isSign" "Z", Cond.fieldLink RX2 40 "SignForms$Part" "sign" "I", Cond.methodLink RX2 14 yX2_lookAtBytes, Cond.instanceMethod yX2_lookAtBytes, Cond.selects RX2 yX2_lookAtBytes yX2_lookAtBytes, Cond.code yX2_lookAtBytes cX2_lookAtBytes 12 none, Cond.methodLink RX2 48 yX2_neededBy]
def wsX3_decide_r3 : List Cond := [Cond.static yX2_neededBy, Cond.code yX2_neededBy cX2_neededBy 2 (some .int), Cond.methodLink RX2 32 yX2_tellSubpart, Cond.instanceMethod yX2_tellSubpart, Cond.selects RX2 yX2_tellSubpart yX2_tellSubpart, Cond.code yX2_tellSubpart cX2_tellSubpart 2 none, Cond.methodLink RX2 52 yX2_leastBehind, Cond.static yX2_leastBehind, Cond.code yX2_leastBehind cX2_leastBehind 1 (some .int), Cond.methodLink RX2 56 yX2_mostBehind, Cond.static yX2_mostBehind, Cond.code yX2_mostBehind cX2_mostBehind 2 (some .int), Cond.methodLink RX2 59 yX0_isFirst, Cond.static yX0_isFirst, Cond.initialized RX0, Cond.code yX0_isFirst cX0_isFirst 1 (some .boolean), Cond.constant RX0 9 (55296), Cond.constant RX0 10 (56319), Cond.methodLink RX2 65 yX2_lookAtSecondHalf, Cond.instanceMethod yX2_lookAtSecondHalf, Cond.selects RX2 yX2_lookAtSecondHalf yX2_lookAtSecondHalf, Cond.code yX2_lookAtSecondHalf cX2_lookAtSecondHalf 9 none, Cond.fieldLink RX2 73 "SignForms$Part" "SECOND_HALF_LEAST" "[I", Cond.fieldLink RX2 77 "SignForms$Part" "SECOND_HALF_MOST" "[I"]
def wsX3_decide_r4 : List Cond := [Cond.constant RX2 80 (65535), Cond.methodLink RX2 81 yX0_joined, Cond.static yX0_joined, Cond.code yX0_joined cX0_joined 2 (some .int), Cond.constant RX0 13 (65536), Cond.constant RX0 11 (56320), Cond.methodLink RX2 69 yX2_tellSign, Cond.instanceMethod yX2_tellSign, Cond.selects RX2 yX2_tellSign yX2_tellSign, Cond.code yX2_tellSign cX2_tellSign 3 none, Cond.methodLink RX2 18 yX2_lookAtPairs, Cond.instanceMethod yX2_lookAtPairs, Cond.selects RX2 yX2_lookAtPairs yX2_lookAtPairs, Cond.code yX2_lookAtPairs cX2_lookAtPairs 7 none, Cond.methodLink RX2 84 yX2_unit, Cond.static yX2_unit, Cond.code yX2_unit cX2_unit 7 (some .int), Cond.methodLink RX2 88 yX0_isSecond, Cond.static yX0_isSecond, Cond.code yX0_isSecond cX0_isSecond 1 (some .boolean), Cond.constant RX0 12 (57343), Cond.methodLink RX2 21 yX2_lookAtFour, Cond.instanceMethod yX2_lookAtFour, Cond.selects RX2 yX2_lookAtFour yX2_lookAtFour]
def wsX3_decide_r5 : List Cond := [Cond.code yX2_lookAtFour cX2_lookAtFour 7 none, Cond.constant RX2 91 (1114111), Cond.methodLink RX2 28 yX2_cutLength, Cond.static yX2_cutLength, Cond.code yX2_cutLength cX2_cutLength 3 (some .int), Cond.methodLink RX2 43 Lib.Math.min.name, Cond.methodLink RX3 104 yX3_addSign, Cond.instanceMethod yX3_addSign, Cond.selects RX3 yX3_addSign yX3_addSign, Cond.code yX3_addSign cX3_addSign 3 none, Cond.fieldLink RX3 47 "SignForms$Stream" "signCount" "I", Cond.fieldLink RX3 15 "SignForms$Stream" "signs" "[I", Cond.fieldLink RX3 18 "SignForms$Stream" "places" "[I", Cond.fieldLink RX3 21 "SignForms$Stream" "lengths" "[I", Cond.fieldLink RX3 24 "SignForms$Stream" "replaced" "[I", Cond.methodLink RX3 108 yX3_meetSubpart, Cond.instanceMethod yX3_meetSubpart, Cond.selects RX3 yX3_meetSubpart yX3_meetSubpart, Cond.code yX3_meetSubpart cX3_meetSubpart 1 none, Cond.fieldLink RX3 50 "SignForms$Stream" "subparts" "I", Cond.fieldLink RX3 53 "SignForms$Stream" "firstSubpart" "I", Cond.fieldLink RX3 38 "SignForms$Stream" "policy" "I", Cond.constant RX3 111 (65533)]
def wsX3_decide : List Cond := .code yX3_decide cX3_decide 1 none :: ((wsX3_decide_r1 ++ (wsX3_decide_r2 ++ (wsX3_decide_r3 ++ (wsX3_decide_r4 ++ wsX3_decide_r5)))) ++ wsX30 ++ wsX20)
def wsX3_fact : List Cond := .code yX3_fact cX3_fact 2 (some .int) :: ([.fieldLink RX3 34 "SignForms$Stream" "form" "I", .fieldLink RX3 41 "SignForms$Stream" "came" "I", .fieldLink RX3 47 "SignForms$Stream" "signCount" "I", .fieldLink RX3 50 "SignForms$Stream" "subparts" "I", .fieldLink RX3 44 "SignForms$Stream" "decided" "I", .fieldLink RX3 63 "SignForms$Stream" "ended" "Z", .fieldLink RX3 56 "SignForms$Stream" "brokenAt" "I", .fieldLink RX3 59 "SignForms$Stream" "marked" "Z", .fieldLink RX3 53 "SignForms$Stream" "firstSubpart" "I"] ++ wsX30)
def wsX3_hasSign : List Cond := .code yX3_hasSign cX3_hasSign 2 (some .boolean) :: ([.fieldLink RX3 47 "SignForms$Stream" "signCount" "I"] ++ wsX30)
def wsX3_signOver : List Cond := .code yX3_signOver cX3_signOver 3 (some .int) :: ([.fieldLink RX3 47 "SignForms$Stream" "signCount" "I", .fieldLink RX3 18 "SignForms$Stream" "places" "[I", .fieldLink RX3 21 "SignForms$Stream" "lengths" "[I"] ++ wsX30)
def wsX3_bytesInForm : List Cond := .code yX3_bytesInForm cX3_bytesInForm 6 (some .int) :: ([.fieldLink RX3 15 "SignForms$Stream" "signs" "[I", .static yX4_bytesIn, .initialized RX4, .code yX4_bytesIn cX4_bytesIn 2 (some .int), .constant RX4 133 (65536), .methodLink RX4 145 yX4_bytesBelowHalved, .static yX4_bytesBelowHalved, .code yX4_bytesBelowHalved cX4_bytesBelowHalved 1 (some .int)] ++ wsX30)
def wsX3_countAmong : List Cond := .code yX3_countAmong cX3_countAmong 5 (some .int) :: ([.fieldLink RX3 47 "SignForms$Stream" "signCount" "I", .fieldLink RX3 15 "SignForms$Stream" "signs" "[I"] ++ wsX30)
def wsX4_init : List Cond := .code yX4_init cX4_init 1 none :: ([.methodLink RX4 3 objectInit, .instanceMethod objectInit, .code objectInit ⟨#[0xb1]⟩ 1 none, .classLink RX4 9 RX3, .fieldLink RX4 11 "SignForms" "streams" "[LSignForms$Stream;", .classLink RX4 15 RX1, .instantiable RX1 2, .initialized RX1, .fieldLink RX4 18 "SignForms" "outRow" "LSignForms$OutRow;", .classLink RX4 22 RX2, .instantiable RX2 3, .initialized RX2, .fieldLink RX4 25 "SignForms" "part" "LSignForms$Part;", .methodLink RX4 17 yX1_init, .instanceMethod yX1_init, .code yX1_init cX1_init 1 none, .methodLink RX1 3 objectInit, .arrayClass .int, .fieldLink RX1 9 "SignForms$OutRow" "bytes" "[I", .fieldLink RX1 15 "SignForms$OutRow" "count" "I", .instanceMethod yX2_init, .code yX2_init cX2_init 1 none, .methodLink RX2 3 objectInit] ++ wsX40 ++ wsX10 ++ wsX20)
def wsX4_isStream : List Cond := .code yX4_isStream cX4_isStream 2 (some .boolean) :: ([.fieldLink RX4 11 "SignForms" "streams" "[LSignForms$Stream;"] ++ wsX40)
def wsX4_open_r1 : List Cond := [Cond.fieldLink RX4 11 "SignForms" "streams" "[LSignForms$Stream;", Cond.classLink RX4 9 RX3, Cond.instantiable RX3 16, Cond.initialized RX3, Cond.methodLink RX4 29 yX4_isStream, Cond.instanceMethod yX4_isStream, Cond.selects RX4 yX4_isStream yX4_isStream, Cond.initialized RX4, Cond.code yX4_isStream cX4_isStream 2 (some .boolean), Cond.methodLink RX4 33 yX3_init, Cond.instanceMethod yX3_init, Cond.code yX3_init cX3_init 1 none, Cond.methodLink RX3 3 objectInit, Cond.instanceMethod objectInit, Cond.code objectInit ⟨#[0xb1]⟩ 1 none, Cond.arrayClass .int, Cond.fieldLink RX3 9 "SignForms$Stream" "bytes" "[I", Cond.fieldLink RX3 15 "SignForms$Stream" "signs" "[I", Cond.fieldLink RX3 18 "SignForms$Stream" "places" "[I", Cond.fieldLink RX3 21 "SignForms$Stream" "lengths" "[I", Cond.fieldLink RX3 24 "SignForms$Stream" "replaced" "[I", Cond.classLink RX3 27 RX2, Cond.instantiable RX2 3, Cond.initialized RX2]
def wsX4_open_r2 : List Cond := [Cond.fieldLink RX3 30 "SignForms$Stream" "part" "LSignForms$Part;", Cond.instanceMethod yX2_init, Cond.code yX2_init cX2_init 1 none, Cond.methodLink RX2 3 objectInit, Cond.methodLink RX4 34 yX3_begin, Cond.instanceMethod yX3_begin, Cond.selects RX3 yX3_begin yX3_begin, Cond.code yX3_begin cX3_begin 3 none, Cond.fieldLink RX3 34 "SignForms$Stream" "form" "I", Cond.fieldLink RX3 38 "SignForms$Stream" "policy" "I", Cond.fieldLink RX3 41 "SignForms$Stream" "came" "I", Cond.fieldLink RX3 44 "SignForms$Stream" "decided" "I", Cond.fieldLink RX3 47 "SignForms$Stream" "signCount" "I", Cond.fieldLink RX3 50 "SignForms$Stream" "subparts" "I", Cond.fieldLink RX3 53 "SignForms$Stream" "firstSubpart" "I", Cond.fieldLink RX3 56 "SignForms$Stream" "brokenAt" "I", Cond.fieldLink RX3 59 "SignForms$Stream" "marked" "Z", Cond.fieldLink RX3 63 "SignForms$Stream" "ended" "Z"]
def wsX4_open : List Cond := .code yX4_open cX4_open 5 (some .boolean) :: ((wsX4_open_r1 ++ wsX4_open_r2) ++ wsX40 ++ wsX30 ++ wsX20)
def wsX4_put_r1 : List Cond := [Cond.fieldLink RX4 11 "SignForms" "streams" "[LSignForms$Stream;", Cond.fieldLink RX4 38 "SignForms$Stream" "ended" "Z", Cond.fieldLink RX4 52 "SignForms$Stream" "signCount" "I", Cond.methodLink RX4 29 yX4_isStream, Cond.instanceMethod yX4_isStream, Cond.selects RX4 yX4_isStream yX4_isStream, Cond.initialized RX4, Cond.code yX4_isStream cX4_isStream 2 (some .boolean), Cond.methodLink RX4 42 yX3_hasRoomFor, Cond.instanceMethod yX3_hasRoomFor, Cond.selects RX3 yX3_hasRoomFor yX3_hasRoomFor, Cond.initialized RX3, Cond.code yX3_hasRoomFor cX3_hasRoomFor 2 (some .boolean), Cond.fieldLink RX3 9 "SignForms$Stream" "bytes" "[I", Cond.fieldLink RX3 41 "SignForms$Stream" "came" "I", Cond.methodLink RX4 45 yX3_take, Cond.instanceMethod yX3_take, Cond.selects RX3 yX3_take yX3_take, Cond.code yX3_take cX3_take 2 none, Cond.methodLink RX4 49 yX3_decide, Cond.instanceMethod yX3_decide, Cond.selects RX3 yX3_decide yX3_decide, Cond.code yX3_decide cX3_decide 1 none, Cond.fieldLink RX3 34 "SignForms$Stream" "form" "I"]
def wsX4_put_r2 : List Cond := [Cond.methodLink RX3 66 yX3_findForm, Cond.instanceMethod yX3_findForm, Cond.selects RX3 yX3_findForm yX3_findForm, Cond.code yX3_findForm cX3_findForm 3 none, Cond.fieldLink RX3 72 "SignForms$Stream" "MARK_FORMS" "[I", Cond.fieldLink RX3 75 "SignForms$Stream" "MARK_LENGTHS" "[I", Cond.methodLink RX3 78 Lib.Math.min.name, Cond.static Lib.Math.min.name, Cond.initialized "java/lang/Math", Cond.code Lib.Math.min.name Lib.Math.min.code 2 (some .int), Cond.fieldLink RX3 59 "SignForms$Stream" "marked" "Z", Cond.fieldLink RX3 44 "SignForms$Stream" "decided" "I", Cond.fieldLink RX3 63 "SignForms$Stream" "ended" "Z", Cond.methodLink RX3 84 yX3_agrees, Cond.instanceMethod yX3_agrees, Cond.selects RX3 yX3_agrees yX3_agrees, Cond.code yX3_agrees cX3_agrees 4 (some .boolean), Cond.fieldLink RX3 88 "SignForms$Stream" "MARK_BYTES" "[I", Cond.methodLink RX3 69 yX3_tellParts, Cond.instanceMethod yX3_tellParts, Cond.selects RX3 yX3_tellParts yX3_tellParts, Cond.code yX3_tellParts cX3_tellParts 2 none, Cond.fieldLink RX3 56 "SignForms$Stream" "brokenAt" "I", Cond.fieldLink RX3 30 "SignForms$Stream" "part" "LSignForms$Part;"]
def wsX4_put_r3 : List Cond := [Cond.fieldLink RX3 95 "SignForms$Part" "length" "I", Cond.fieldLink RX3 98 "SignForms$Part" "isSign" "Z", Cond.fieldLink RX3 101 "SignForms$Part" "sign" "I", Cond.methodLink RX3 91 yX2_look, Cond.instanceMethod yX2_look, Cond.selects RX2 yX2_look yX2_look, Cond.initialized RX2, Cond.code yX2_look cX2_look 6 none, Cond.fieldLink RX2 24 "SignForms$Part" "length" "I", Cond.methodLink RX2 9 yX2_tellNothing, Cond.instanceMethod yX2_tellNothing, Cond.selects RX2 yX2_tellNothing yX2_tellNothing, Cond.code yX2_tellNothing cX2_tellNothing 1 none, Cond.fieldLink RX2 36 "SignForms$Part" "isSign" "Z", Cond.fieldLink RX2 40 "SignForms$Part" "sign" "I", Cond.methodLink RX2 14 yX2_lookAtBytes, Cond.instanceMethod yX2_lookAtBytes, Cond.selects RX2 yX2_lookAtBytes yX2_lookAtBytes, Cond.code yX2_lookAtBytes cX2_lookAtBytes 12 none, Cond.methodLink RX2 48 yX2_neededBy, Cond.static yX2_neededBy, Cond.code yX2_neededBy cX2_neededBy 2 (some .int), Cond.methodLink RX2 32 yX2_tellSubpart, Cond.instanceMethod yX2_tellSubpart]
def wsX4_put_r4 : List Cond := [Cond.selects RX2 yX2_tellSubpart yX2_tellSubpart, Cond.code yX2_tellSubpart cX2_tellSubpart 2 none, Cond.methodLink RX2 52 yX2_leastBehind, Cond.static yX2_leastBehind, Cond.code yX2_leastBehind cX2_leastBehind 1 (some .int), Cond.methodLink RX2 56 yX2_mostBehind, Cond.static yX2_mostBehind, Cond.code yX2_mostBehind cX2_mostBehind 2 (some .int), Cond.methodLink RX2 59 yX0_isFirst, Cond.static yX0_isFirst, Cond.initialized RX0, Cond.code yX0_isFirst cX0_isFirst 1 (some .boolean), Cond.constant RX0 9 (55296), Cond.constant RX0 10 (56319), Cond.methodLink RX2 65 yX2_lookAtSecondHalf, Cond.instanceMethod yX2_lookAtSecondHalf, Cond.selects RX2 yX2_lookAtSecondHalf yX2_lookAtSecondHalf, Cond.code yX2_lookAtSecondHalf cX2_lookAtSecondHalf 9 none, Cond.fieldLink RX2 73 "SignForms$Part" "SECOND_HALF_LEAST" "[I", Cond.fieldLink RX2 77 "SignForms$Part" "SECOND_HALF_MOST" "[I", Cond.constant RX2 80 (65535), Cond.methodLink RX2 81 yX0_joined, Cond.static yX0_joined, Cond.code yX0_joined cX0_joined 2 (some .int)]
def wsX4_put_r5 : List Cond := [Cond.constant RX0 13 (65536), Cond.constant RX0 11 (56320), Cond.methodLink RX2 69 yX2_tellSign, Cond.instanceMethod yX2_tellSign, Cond.selects RX2 yX2_tellSign yX2_tellSign, Cond.code yX2_tellSign cX2_tellSign 3 none, Cond.methodLink RX2 18 yX2_lookAtPairs, Cond.instanceMethod yX2_lookAtPairs, Cond.selects RX2 yX2_lookAtPairs yX2_lookAtPairs, Cond.code yX2_lookAtPairs cX2_lookAtPairs 7 none, Cond.methodLink RX2 84 yX2_unit, Cond.static yX2_unit, Cond.code yX2_unit cX2_unit 7 (some .int), Cond.methodLink RX2 88 yX0_isSecond, Cond.static yX0_isSecond, Cond.code yX0_isSecond cX0_isSecond 1 (some .boolean), Cond.constant RX0 12 (57343), Cond.methodLink RX2 21 yX2_lookAtFour, Cond.instanceMethod yX2_lookAtFour, Cond.selects RX2 yX2_lookAtFour yX2_lookAtFour, Cond.code yX2_lookAtFour cX2_lookAtFour 7 none, Cond.constant RX2 91 (1114111), Cond.methodLink RX2 28 yX2_cutLength, Cond.static yX2_cutLength]
def wsX4_put_r6 : List Cond := [Cond.code yX2_cutLength cX2_cutLength 3 (some .int), Cond.methodLink RX2 43 Lib.Math.min.name, Cond.methodLink RX3 104 yX3_addSign, Cond.instanceMethod yX3_addSign, Cond.selects RX3 yX3_addSign yX3_addSign, Cond.code yX3_addSign cX3_addSign 3 none, Cond.fieldLink RX3 47 "SignForms$Stream" "signCount" "I", Cond.fieldLink RX3 15 "SignForms$Stream" "signs" "[I", Cond.fieldLink RX3 18 "SignForms$Stream" "places" "[I", Cond.fieldLink RX3 21 "SignForms$Stream" "lengths" "[I", Cond.fieldLink RX3 24 "SignForms$Stream" "replaced" "[I", Cond.methodLink RX3 108 yX3_meetSubpart, Cond.instanceMethod yX3_meetSubpart, Cond.selects RX3 yX3_meetSubpart yX3_meetSubpart, Cond.code yX3_meetSubpart cX3_meetSubpart 1 none, Cond.fieldLink RX3 50 "SignForms$Stream" "subparts" "I", Cond.fieldLink RX3 53 "SignForms$Stream" "firstSubpart" "I", Cond.fieldLink RX3 38 "SignForms$Stream" "policy" "I", Cond.constant RX3 111 (65533)]
def wsX4_put : List Cond := .code yX4_put cX4_put 7 (some .int) :: ((wsX4_put_r1 ++ (wsX4_put_r2 ++ (wsX4_put_r3 ++ (wsX4_put_r4 ++ (wsX4_put_r5 ++ wsX4_put_r6))))) ++ wsX40 ++ wsX30 ++ wsX20)
def wsX4_pour_r1 : List Cond := [Cond.fieldLink RX4 18 "SignForms" "outRow" "LSignForms$OutRow;", Cond.fieldLink RX4 56 "SignForms$OutRow" "count" "I", Cond.fieldLink RX4 11 "SignForms" "streams" "[LSignForms$Stream;", Cond.fieldLink RX4 38 "SignForms$Stream" "ended" "Z", Cond.methodLink RX4 59 Lib.Math.min.name, Cond.static Lib.Math.min.name, Cond.initialized "java/lang/Math", Cond.code Lib.Math.min.name Lib.Math.min.code 2 (some .int), Cond.methodLink RX4 29 yX4_isStream, Cond.instanceMethod yX4_isStream, Cond.selects RX4 yX4_isStream yX4_isStream, Cond.initialized RX4, Cond.code yX4_isStream cX4_isStream 2 (some .boolean), Cond.methodLink RX4 42 yX3_hasRoomFor, Cond.instanceMethod yX3_hasRoomFor, Cond.selects RX3 yX3_hasRoomFor yX3_hasRoomFor, Cond.initialized RX3, Cond.code yX3_hasRoomFor cX3_hasRoomFor 2 (some .boolean), Cond.fieldLink RX3 9 "SignForms$Stream" "bytes" "[I", Cond.fieldLink RX3 41 "SignForms$Stream" "came" "I", Cond.methodLink RX4 65 yX1_byteAt, Cond.instanceMethod yX1_byteAt, Cond.selects RX1 yX1_byteAt yX1_byteAt, Cond.initialized RX1]
def wsX4_pour_r2 : List Cond := [Cond.code yX1_byteAt cX1_byteAt 2 (some .int), Cond.fieldLink RX1 15 "SignForms$OutRow" "count" "I", Cond.fieldLink RX1 9 "SignForms$OutRow" "bytes" "[I", Cond.methodLink RX4 45 yX3_take, Cond.instanceMethod yX3_take, Cond.selects RX3 yX3_take yX3_take, Cond.code yX3_take cX3_take 2 none, Cond.methodLink RX4 49 yX3_decide, Cond.instanceMethod yX3_decide, Cond.selects RX3 yX3_decide yX3_decide, Cond.code yX3_decide cX3_decide 1 none, Cond.fieldLink RX3 34 "SignForms$Stream" "form" "I", Cond.methodLink RX3 66 yX3_findForm, Cond.instanceMethod yX3_findForm, Cond.selects RX3 yX3_findForm yX3_findForm, Cond.code yX3_findForm cX3_findForm 3 none, Cond.fieldLink RX3 72 "SignForms$Stream" "MARK_FORMS" "[I", Cond.fieldLink RX3 75 "SignForms$Stream" "MARK_LENGTHS" "[I", Cond.methodLink RX3 78 Lib.Math.min.name, Cond.fieldLink RX3 59 "SignForms$Stream" "marked" "Z", Cond.fieldLink RX3 44 "SignForms$Stream" "decided" "I", Cond.fieldLink RX3 63 "SignForms$Stream" "ended" "Z", Cond.methodLink RX3 84 yX3_agrees, Cond.instanceMethod yX3_agrees]
def wsX4_pour_r3 : List Cond := [Cond.selects RX3 yX3_agrees yX3_agrees, Cond.code yX3_agrees cX3_agrees 4 (some .boolean), Cond.fieldLink RX3 88 "SignForms$Stream" "MARK_BYTES" "[I", Cond.methodLink RX3 69 yX3_tellParts, Cond.instanceMethod yX3_tellParts, Cond.selects RX3 yX3_tellParts yX3_tellParts, Cond.code yX3_tellParts cX3_tellParts 2 none, Cond.fieldLink RX3 56 "SignForms$Stream" "brokenAt" "I", Cond.fieldLink RX3 30 "SignForms$Stream" "part" "LSignForms$Part;", Cond.fieldLink RX3 95 "SignForms$Part" "length" "I", Cond.fieldLink RX3 98 "SignForms$Part" "isSign" "Z", Cond.fieldLink RX3 101 "SignForms$Part" "sign" "I", Cond.methodLink RX3 91 yX2_look, Cond.instanceMethod yX2_look, Cond.selects RX2 yX2_look yX2_look, Cond.initialized RX2, Cond.code yX2_look cX2_look 6 none, Cond.fieldLink RX2 24 "SignForms$Part" "length" "I", Cond.methodLink RX2 9 yX2_tellNothing, Cond.instanceMethod yX2_tellNothing, Cond.selects RX2 yX2_tellNothing yX2_tellNothing, Cond.code yX2_tellNothing cX2_tellNothing 1 none, Cond.fieldLink RX2 36 "SignForms$Part" "isSign" "Z", Cond.fieldLink RX2 40 "SignForms$Part" "sign" "I"]
def wsX4_pour_r4 : List Cond := [Cond.methodLink RX2 14 yX2_lookAtBytes, Cond.instanceMethod yX2_lookAtBytes, Cond.selects RX2 yX2_lookAtBytes yX2_lookAtBytes, Cond.code yX2_lookAtBytes cX2_lookAtBytes 12 none, Cond.methodLink RX2 48 yX2_neededBy, Cond.static yX2_neededBy, Cond.code yX2_neededBy cX2_neededBy 2 (some .int), Cond.methodLink RX2 32 yX2_tellSubpart, Cond.instanceMethod yX2_tellSubpart, Cond.selects RX2 yX2_tellSubpart yX2_tellSubpart, Cond.code yX2_tellSubpart cX2_tellSubpart 2 none, Cond.methodLink RX2 52 yX2_leastBehind, Cond.static yX2_leastBehind, Cond.code yX2_leastBehind cX2_leastBehind 1 (some .int), Cond.methodLink RX2 56 yX2_mostBehind, Cond.static yX2_mostBehind, Cond.code yX2_mostBehind cX2_mostBehind 2 (some .int), Cond.methodLink RX2 59 yX0_isFirst, Cond.static yX0_isFirst, Cond.initialized RX0, Cond.code yX0_isFirst cX0_isFirst 1 (some .boolean), Cond.constant RX0 9 (55296), Cond.constant RX0 10 (56319), Cond.methodLink RX2 65 yX2_lookAtSecondHalf]
def wsX4_pour_r5 : List Cond := [Cond.instanceMethod yX2_lookAtSecondHalf, Cond.selects RX2 yX2_lookAtSecondHalf yX2_lookAtSecondHalf, Cond.code yX2_lookAtSecondHalf cX2_lookAtSecondHalf 9 none, Cond.fieldLink RX2 73 "SignForms$Part" "SECOND_HALF_LEAST" "[I", Cond.fieldLink RX2 77 "SignForms$Part" "SECOND_HALF_MOST" "[I", Cond.constant RX2 80 (65535), Cond.methodLink RX2 81 yX0_joined, Cond.static yX0_joined, Cond.code yX0_joined cX0_joined 2 (some .int), Cond.constant RX0 13 (65536), Cond.constant RX0 11 (56320), Cond.methodLink RX2 69 yX2_tellSign, Cond.instanceMethod yX2_tellSign, Cond.selects RX2 yX2_tellSign yX2_tellSign, Cond.code yX2_tellSign cX2_tellSign 3 none, Cond.methodLink RX2 18 yX2_lookAtPairs, Cond.instanceMethod yX2_lookAtPairs, Cond.selects RX2 yX2_lookAtPairs yX2_lookAtPairs, Cond.code yX2_lookAtPairs cX2_lookAtPairs 7 none, Cond.methodLink RX2 84 yX2_unit, Cond.static yX2_unit, Cond.code yX2_unit cX2_unit 7 (some .int), Cond.methodLink RX2 88 yX0_isSecond, Cond.static yX0_isSecond]
def wsX4_pour_r6 : List Cond := [Cond.code yX0_isSecond cX0_isSecond 1 (some .boolean), Cond.constant RX0 12 (57343), Cond.methodLink RX2 21 yX2_lookAtFour, Cond.instanceMethod yX2_lookAtFour, Cond.selects RX2 yX2_lookAtFour yX2_lookAtFour, Cond.code yX2_lookAtFour cX2_lookAtFour 7 none, Cond.constant RX2 91 (1114111), Cond.methodLink RX2 28 yX2_cutLength, Cond.static yX2_cutLength, Cond.code yX2_cutLength cX2_cutLength 3 (some .int), Cond.methodLink RX2 43 Lib.Math.min.name, Cond.methodLink RX3 104 yX3_addSign, Cond.instanceMethod yX3_addSign, Cond.selects RX3 yX3_addSign yX3_addSign, Cond.code yX3_addSign cX3_addSign 3 none, Cond.fieldLink RX3 47 "SignForms$Stream" "signCount" "I", Cond.fieldLink RX3 15 "SignForms$Stream" "signs" "[I", Cond.fieldLink RX3 18 "SignForms$Stream" "places" "[I", Cond.fieldLink RX3 21 "SignForms$Stream" "lengths" "[I", Cond.fieldLink RX3 24 "SignForms$Stream" "replaced" "[I", Cond.methodLink RX3 108 yX3_meetSubpart, Cond.instanceMethod yX3_meetSubpart, Cond.selects RX3 yX3_meetSubpart yX3_meetSubpart, Cond.code yX3_meetSubpart cX3_meetSubpart 1 none]
def wsX4_pour_r7 : List Cond := [Cond.fieldLink RX3 50 "SignForms$Stream" "subparts" "I", Cond.fieldLink RX3 53 "SignForms$Stream" "firstSubpart" "I", Cond.fieldLink RX3 38 "SignForms$Stream" "policy" "I", Cond.constant RX3 111 (65533)]
def wsX4_pour : List Cond := .code yX4_pour cX4_pour 7 (some .int) :: ((wsX4_pour_r1 ++ (wsX4_pour_r2 ++ (wsX4_pour_r3 ++ (wsX4_pour_r4 ++ (wsX4_pour_r5 ++ (wsX4_pour_r6 ++ wsX4_pour_r7)))))) ++ wsX40 ++ wsX10 ++ wsX30 ++ wsX20)
def wsX4_end_r1 : List Cond := [Cond.fieldLink RX4 11 "SignForms" "streams" "[LSignForms$Stream;", Cond.fieldLink RX4 38 "SignForms$Stream" "ended" "Z", Cond.fieldLink RX4 52 "SignForms$Stream" "signCount" "I", Cond.methodLink RX4 29 yX4_isStream, Cond.instanceMethod yX4_isStream, Cond.selects RX4 yX4_isStream yX4_isStream, Cond.initialized RX4, Cond.code yX4_isStream cX4_isStream 2 (some .boolean), Cond.methodLink RX4 49 yX3_decide, Cond.instanceMethod yX3_decide, Cond.selects RX3 yX3_decide yX3_decide, Cond.initialized RX3, Cond.code yX3_decide cX3_decide 1 none, Cond.fieldLink RX3 34 "SignForms$Stream" "form" "I", Cond.methodLink RX3 66 yX3_findForm, Cond.instanceMethod yX3_findForm, Cond.selects RX3 yX3_findForm yX3_findForm, Cond.code yX3_findForm cX3_findForm 3 none, Cond.fieldLink RX3 72 "SignForms$Stream" "MARK_FORMS" "[I", Cond.fieldLink RX3 75 "SignForms$Stream" "MARK_LENGTHS" "[I", Cond.fieldLink RX3 41 "SignForms$Stream" "came" "I", Cond.methodLink RX3 78 Lib.Math.min.name, Cond.static Lib.Math.min.name, Cond.initialized "java/lang/Math"]
def wsX4_end_r2 : List Cond := [Cond.code Lib.Math.min.name Lib.Math.min.code 2 (some .int), Cond.fieldLink RX3 59 "SignForms$Stream" "marked" "Z", Cond.fieldLink RX3 44 "SignForms$Stream" "decided" "I", Cond.fieldLink RX3 63 "SignForms$Stream" "ended" "Z", Cond.methodLink RX3 84 yX3_agrees, Cond.instanceMethod yX3_agrees, Cond.selects RX3 yX3_agrees yX3_agrees, Cond.code yX3_agrees cX3_agrees 4 (some .boolean), Cond.fieldLink RX3 9 "SignForms$Stream" "bytes" "[I", Cond.fieldLink RX3 88 "SignForms$Stream" "MARK_BYTES" "[I", Cond.methodLink RX3 69 yX3_tellParts, Cond.instanceMethod yX3_tellParts, Cond.selects RX3 yX3_tellParts yX3_tellParts, Cond.code yX3_tellParts cX3_tellParts 2 none, Cond.fieldLink RX3 56 "SignForms$Stream" "brokenAt" "I", Cond.fieldLink RX3 30 "SignForms$Stream" "part" "LSignForms$Part;", Cond.fieldLink RX3 95 "SignForms$Part" "length" "I", Cond.fieldLink RX3 98 "SignForms$Part" "isSign" "Z", Cond.fieldLink RX3 101 "SignForms$Part" "sign" "I", Cond.methodLink RX3 91 yX2_look, Cond.instanceMethod yX2_look, Cond.selects RX2 yX2_look yX2_look, Cond.initialized RX2, Cond.code yX2_look cX2_look 6 none]
def wsX4_end_r3 : List Cond := [Cond.fieldLink RX2 24 "SignForms$Part" "length" "I", Cond.methodLink RX2 9 yX2_tellNothing, Cond.instanceMethod yX2_tellNothing, Cond.selects RX2 yX2_tellNothing yX2_tellNothing, Cond.code yX2_tellNothing cX2_tellNothing 1 none, Cond.fieldLink RX2 36 "SignForms$Part" "isSign" "Z", Cond.fieldLink RX2 40 "SignForms$Part" "sign" "I", Cond.methodLink RX2 14 yX2_lookAtBytes, Cond.instanceMethod yX2_lookAtBytes, Cond.selects RX2 yX2_lookAtBytes yX2_lookAtBytes, Cond.code yX2_lookAtBytes cX2_lookAtBytes 12 none, Cond.methodLink RX2 48 yX2_neededBy, Cond.static yX2_neededBy, Cond.code yX2_neededBy cX2_neededBy 2 (some .int), Cond.methodLink RX2 32 yX2_tellSubpart, Cond.instanceMethod yX2_tellSubpart, Cond.selects RX2 yX2_tellSubpart yX2_tellSubpart, Cond.code yX2_tellSubpart cX2_tellSubpart 2 none, Cond.methodLink RX2 52 yX2_leastBehind, Cond.static yX2_leastBehind, Cond.code yX2_leastBehind cX2_leastBehind 1 (some .int), Cond.methodLink RX2 56 yX2_mostBehind, Cond.static yX2_mostBehind, Cond.code yX2_mostBehind cX2_mostBehind 2 (some .int)]
def wsX4_end_r4 : List Cond := [Cond.methodLink RX2 59 yX0_isFirst, Cond.static yX0_isFirst, Cond.initialized RX0, Cond.code yX0_isFirst cX0_isFirst 1 (some .boolean), Cond.constant RX0 9 (55296), Cond.constant RX0 10 (56319), Cond.methodLink RX2 65 yX2_lookAtSecondHalf, Cond.instanceMethod yX2_lookAtSecondHalf, Cond.selects RX2 yX2_lookAtSecondHalf yX2_lookAtSecondHalf, Cond.code yX2_lookAtSecondHalf cX2_lookAtSecondHalf 9 none, Cond.fieldLink RX2 73 "SignForms$Part" "SECOND_HALF_LEAST" "[I", Cond.fieldLink RX2 77 "SignForms$Part" "SECOND_HALF_MOST" "[I", Cond.constant RX2 80 (65535), Cond.methodLink RX2 81 yX0_joined, Cond.static yX0_joined, Cond.code yX0_joined cX0_joined 2 (some .int), Cond.constant RX0 13 (65536), Cond.constant RX0 11 (56320), Cond.methodLink RX2 69 yX2_tellSign, Cond.instanceMethod yX2_tellSign, Cond.selects RX2 yX2_tellSign yX2_tellSign, Cond.code yX2_tellSign cX2_tellSign 3 none, Cond.methodLink RX2 18 yX2_lookAtPairs, Cond.instanceMethod yX2_lookAtPairs]
def wsX4_end_r5 : List Cond := [Cond.selects RX2 yX2_lookAtPairs yX2_lookAtPairs, Cond.code yX2_lookAtPairs cX2_lookAtPairs 7 none, Cond.methodLink RX2 84 yX2_unit, Cond.static yX2_unit, Cond.code yX2_unit cX2_unit 7 (some .int), Cond.methodLink RX2 88 yX0_isSecond, Cond.static yX0_isSecond, Cond.code yX0_isSecond cX0_isSecond 1 (some .boolean), Cond.constant RX0 12 (57343), Cond.methodLink RX2 21 yX2_lookAtFour, Cond.instanceMethod yX2_lookAtFour, Cond.selects RX2 yX2_lookAtFour yX2_lookAtFour, Cond.code yX2_lookAtFour cX2_lookAtFour 7 none, Cond.constant RX2 91 (1114111), Cond.methodLink RX2 28 yX2_cutLength, Cond.static yX2_cutLength, Cond.code yX2_cutLength cX2_cutLength 3 (some .int), Cond.methodLink RX2 43 Lib.Math.min.name, Cond.methodLink RX3 104 yX3_addSign, Cond.instanceMethod yX3_addSign, Cond.selects RX3 yX3_addSign yX3_addSign, Cond.code yX3_addSign cX3_addSign 3 none, Cond.fieldLink RX3 47 "SignForms$Stream" "signCount" "I", Cond.fieldLink RX3 15 "SignForms$Stream" "signs" "[I"]
def wsX4_end_r6 : List Cond := [Cond.fieldLink RX3 18 "SignForms$Stream" "places" "[I", Cond.fieldLink RX3 21 "SignForms$Stream" "lengths" "[I", Cond.fieldLink RX3 24 "SignForms$Stream" "replaced" "[I", Cond.methodLink RX3 108 yX3_meetSubpart, Cond.instanceMethod yX3_meetSubpart, Cond.selects RX3 yX3_meetSubpart yX3_meetSubpart, Cond.code yX3_meetSubpart cX3_meetSubpart 1 none, Cond.fieldLink RX3 50 "SignForms$Stream" "subparts" "I", Cond.fieldLink RX3 53 "SignForms$Stream" "firstSubpart" "I", Cond.fieldLink RX3 38 "SignForms$Stream" "policy" "I", Cond.constant RX3 111 (65533)]
def wsX4_end : List Cond := .code yX4_end cX4_end 3 (some .int) :: ((wsX4_end_r1 ++ (wsX4_end_r2 ++ (wsX4_end_r3 ++ (wsX4_end_r4 ++ (wsX4_end_r5 ++ wsX4_end_r6))))) ++ wsX40 ++ wsX30 ++ wsX20)
def wsX4_about : List Cond := .code yX4_about cX4_about 4 (some .int) :: ([.fieldLink RX4 11 "SignForms" "streams" "[LSignForms$Stream;", .methodLink RX4 29 yX4_isStream, .instanceMethod yX4_isStream, .selects RX4 yX4_isStream yX4_isStream, .initialized RX4, .code yX4_isStream cX4_isStream 2 (some .boolean), .methodLink RX4 69 yX3_fact, .instanceMethod yX3_fact, .selects RX3 yX3_fact yX3_fact, .initialized RX3, .code yX3_fact cX3_fact 2 (some .int), .fieldLink RX3 34 "SignForms$Stream" "form" "I", .fieldLink RX3 41 "SignForms$Stream" "came" "I", .fieldLink RX3 47 "SignForms$Stream" "signCount" "I", .fieldLink RX3 50 "SignForms$Stream" "subparts" "I", .fieldLink RX3 44 "SignForms$Stream" "decided" "I", .fieldLink RX3 63 "SignForms$Stream" "ended" "Z", .fieldLink RX3 56 "SignForms$Stream" "brokenAt" "I", .fieldLink RX3 59 "SignForms$Stream" "marked" "Z", .fieldLink RX3 53 "SignForms$Stream" "firstSubpart" "I"] ++ wsX40 ++ wsX30)
def wsX4_openStream : List Cond := .code yX4_openStream cX4_openStream 2 (some (.object "SignForms$Stream")) :: ([.fieldLink RX4 11 "SignForms" "streams" "[LSignForms$Stream;", .methodLink RX4 29 yX4_isStream, .instanceMethod yX4_isStream, .selects RX4 yX4_isStream yX4_isStream, .initialized RX4, .code yX4_isStream cX4_isStream 2 (some .boolean)] ++ wsX40)
def wsX4_sign : List Cond := .code yX4_sign cX4_sign 4 (some .int) :: ([.fieldLink RX4 79 "SignForms$Stream" "signs" "[I", .methodLink RX4 72 yX4_openStream, .instanceMethod yX4_openStream, .selects RX4 yX4_openStream yX4_openStream, .initialized RX4, .code yX4_openStream cX4_openStream 2 (some (.object "SignForms$Stream")), .fieldLink RX4 11 "SignForms" "streams" "[LSignForms$Stream;", .methodLink RX4 29 yX4_isStream, .instanceMethod yX4_isStream, .selects RX4 yX4_isStream yX4_isStream, .code yX4_isStream cX4_isStream 2 (some .boolean), .methodLink RX4 76 yX3_hasSign, .instanceMethod yX3_hasSign, .selects RX3 yX3_hasSign yX3_hasSign, .initialized RX3, .code yX3_hasSign cX3_hasSign 2 (some .boolean), .fieldLink RX3 47 "SignForms$Stream" "signCount" "I"] ++ wsX30 ++ wsX40)
def wsX4_placed : List Cond := .code yX4_placed cX4_placed 5 (some .int) :: ([.fieldLink RX4 83 "SignForms$Stream" "places" "[I", .fieldLink RX4 86 "SignForms$Stream" "lengths" "[I", .fieldLink RX4 89 "SignForms$Stream" "replaced" "[I", .methodLink RX4 72 yX4_openStream, .instanceMethod yX4_openStream, .selects RX4 yX4_openStream yX4_openStream, .initialized RX4, .code yX4_openStream cX4_openStream 2 (some (.object "SignForms$Stream")), .fieldLink RX4 11 "SignForms" "streams" "[LSignForms$Stream;", .methodLink RX4 29 yX4_isStream, .instanceMethod yX4_isStream, .selects RX4 yX4_isStream yX4_isStream, .code yX4_isStream cX4_isStream 2 (some .boolean), .methodLink RX4 76 yX3_hasSign, .instanceMethod yX3_hasSign, .selects RX3 yX3_hasSign yX3_hasSign, .initialized RX3, .code yX3_hasSign cX3_hasSign 2 (some .boolean), .fieldLink RX3 47 "SignForms$Stream" "signCount" "I"] ++ wsX30 ++ wsX40)
def wsX4_at : List Cond := .code yX4_at cX4_at 4 (some .int) :: ([.methodLink RX4 72 yX4_openStream, .instanceMethod yX4_openStream, .selects RX4 yX4_openStream yX4_openStream, .initialized RX4, .code yX4_openStream cX4_openStream 2 (some (.object "SignForms$Stream")), .fieldLink RX4 11 "SignForms" "streams" "[LSignForms$Stream;", .methodLink RX4 29 yX4_isStream, .instanceMethod yX4_isStream, .selects RX4 yX4_isStream yX4_isStream, .code yX4_isStream cX4_isStream 2 (some .boolean), .methodLink RX4 92 yX3_signOver, .instanceMethod yX3_signOver, .selects RX3 yX3_signOver yX3_signOver, .initialized RX3, .code yX3_signOver cX3_signOver 3 (some .int), .fieldLink RX3 47 "SignForms$Stream" "signCount" "I", .fieldLink RX3 18 "SignForms$Stream" "places" "[I", .fieldLink RX3 21 "SignForms$Stream" "lengths" "[I"] ++ wsX40 ++ wsX30)
def wsX4_isWritable : List Cond := .code yX4_isWritable cX4_isWritable 1 (some .boolean) :: ([])
def wsX4_write_r1 : List Cond := [Cond.fieldLink RX4 11 "SignForms" "streams" "[LSignForms$Stream;", Cond.constant RX4 98 (65279), Cond.fieldLink RX4 52 "SignForms$Stream" "signCount" "I", Cond.fieldLink RX4 18 "SignForms" "outRow" "LSignForms$OutRow;", Cond.fieldLink RX4 56 "SignForms$OutRow" "count" "I", Cond.fieldLink RX4 79 "SignForms$Stream" "signs" "[I", Cond.methodLink RX4 29 yX4_isStream, Cond.instanceMethod yX4_isStream, Cond.selects RX4 yX4_isStream yX4_isStream, Cond.initialized RX4, Cond.code yX4_isStream cX4_isStream 2 (some .boolean), Cond.methodLink RX4 95 yX4_isWritable, Cond.static yX4_isWritable, Cond.code yX4_isWritable cX4_isWritable 1 (some .boolean), Cond.methodLink RX4 99 yX4_bytesIn, Cond.static yX4_bytesIn, Cond.code yX4_bytesIn cX4_bytesIn 2 (some .int), Cond.constant RX4 133 (65536), Cond.methodLink RX4 145 yX4_bytesBelowHalved, Cond.static yX4_bytesBelowHalved, Cond.code yX4_bytesBelowHalved cX4_bytesBelowHalved 1 (some .int), Cond.methodLink RX4 102 yX3_bytesInForm, Cond.instanceMethod yX3_bytesInForm, Cond.selects RX3 yX3_bytesInForm yX3_bytesInForm]
def wsX4_write_r2 : List Cond := [Cond.initialized RX3, Cond.code yX3_bytesInForm cX3_bytesInForm 6 (some .int), Cond.fieldLink RX3 15 "SignForms$Stream" "signs" "[I", Cond.methodLink RX4 106 yX1_addSign, Cond.instanceMethod yX1_addSign, Cond.selects RX1 yX1_addSign yX1_addSign, Cond.initialized RX1, Cond.code yX1_addSign cX1_addSign 4 none, Cond.constant RX1 19 (65536), Cond.methodLink RX1 20 yX0_firstOf, Cond.static yX0_firstOf, Cond.initialized RX0, Cond.code yX0_firstOf cX0_firstOf 1 (some .int), Cond.constant RX0 9 (55296), Cond.constant RX0 13 (65536), Cond.methodLink RX1 26 yX1_addNumber, Cond.instanceMethod yX1_addNumber, Cond.selects RX1 yX1_addNumber yX1_addNumber, Cond.code yX1_addNumber cX1_addNumber 4 none, Cond.methodLink RX1 37 yX1_addBytes, Cond.instanceMethod yX1_addBytes, Cond.selects RX1 yX1_addBytes yX1_addBytes, Cond.code yX1_addBytes cX1_addBytes 4 none, Cond.methodLink RX1 46 yX1_add]
def wsX4_write_r3 : List Cond := [Cond.instanceMethod yX1_add, Cond.selects RX1 yX1_add yX1_add, Cond.code yX1_add cX1_add 2 none, Cond.fieldLink RX1 15 "SignForms$OutRow" "count" "I", Cond.fieldLink RX1 9 "SignForms$OutRow" "bytes" "[I", Cond.methodLink RX1 50 yX1_leadOf, Cond.static yX1_leadOf, Cond.code yX1_leadOf cX1_leadOf 1 (some .int), Cond.methodLink RX1 40 yX1_addLowFirst, Cond.instanceMethod yX1_addLowFirst, Cond.selects RX1 yX1_addLowFirst yX1_addLowFirst, Cond.code yX1_addLowFirst cX1_addLowFirst 4 none, Cond.methodLink RX1 43 yX1_addHighFirst, Cond.instanceMethod yX1_addHighFirst, Cond.selects RX1 yX1_addHighFirst yX1_addHighFirst, Cond.code yX1_addHighFirst cX1_addHighFirst 4 none, Cond.methodLink RX1 30 yX0_secondOf, Cond.static yX0_secondOf, Cond.code yX0_secondOf cX0_secondOf 1 (some .int), Cond.constant RX0 11 (56320)]
def wsX4_write : List Cond := .code yX4_write cX4_write 7 (some .int) :: ((wsX4_write_r1 ++ (wsX4_write_r2 ++ wsX4_write_r3)) ++ wsX40 ++ wsX30 ++ wsX10)
def wsX4_size : List Cond := .code yX4_size cX4_size 6 (some .int) :: ([.fieldLink RX4 11 "SignForms" "streams" "[LSignForms$Stream;", .fieldLink RX4 52 "SignForms$Stream" "signCount" "I", .methodLink RX4 29 yX4_isStream, .instanceMethod yX4_isStream, .selects RX4 yX4_isStream yX4_isStream, .initialized RX4, .code yX4_isStream cX4_isStream 2 (some .boolean), .methodLink RX4 95 yX4_isWritable, .static yX4_isWritable, .code yX4_isWritable cX4_isWritable 1 (some .boolean), .methodLink RX4 102 yX3_bytesInForm, .instanceMethod yX3_bytesInForm, .selects RX3 yX3_bytesInForm yX3_bytesInForm, .initialized RX3, .code yX3_bytesInForm cX3_bytesInForm 6 (some .int), .fieldLink RX3 15 "SignForms$Stream" "signs" "[I", .static yX4_bytesIn, .code yX4_bytesIn cX4_bytesIn 2 (some .int), .constant RX4 133 (65536), .methodLink RX4 145 yX4_bytesBelowHalved, .static yX4_bytesBelowHalved, .code yX4_bytesBelowHalved cX4_bytesBelowHalved 1 (some .int)] ++ wsX40 ++ wsX30)
def wsX4_out : List Cond := .code yX4_out cX4_out 2 (some .int) :: ([.fieldLink RX4 18 "SignForms" "outRow" "LSignForms$OutRow;", .methodLink RX4 65 yX1_byteAt, .instanceMethod yX1_byteAt, .selects RX1 yX1_byteAt yX1_byteAt, .initialized RX1, .code yX1_byteAt cX1_byteAt 2 (some .int), .fieldLink RX1 15 "SignForms$OutRow" "count" "I", .fieldLink RX1 9 "SignForms$OutRow" "bytes" "[I"] ++ wsX40 ++ wsX10)
def wsX4_check_r1 : List Cond := [Cond.fieldLink RX4 18 "SignForms" "outRow" "LSignForms$OutRow;", Cond.fieldLink RX4 56 "SignForms$OutRow" "count" "I", Cond.fieldLink RX4 25 "SignForms" "part" "LSignForms$Part;", Cond.fieldLink RX4 109 "SignForms$OutRow" "bytes" "[I", Cond.fieldLink RX4 116 "SignForms$Part" "isSign" "Z", Cond.fieldLink RX4 119 "SignForms$Part" "length" "I", Cond.methodLink RX4 95 yX4_isWritable, Cond.static yX4_isWritable, Cond.initialized RX4, Cond.code yX4_isWritable cX4_isWritable 1 (some .boolean), Cond.methodLink RX4 112 yX2_look, Cond.instanceMethod yX2_look, Cond.selects RX2 yX2_look yX2_look, Cond.initialized RX2, Cond.code yX2_look cX2_look 6 none, Cond.fieldLink RX2 24 "SignForms$Part" "length" "I", Cond.methodLink RX2 9 yX2_tellNothing, Cond.instanceMethod yX2_tellNothing, Cond.selects RX2 yX2_tellNothing yX2_tellNothing, Cond.code yX2_tellNothing cX2_tellNothing 1 none, Cond.fieldLink RX2 36 "SignForms$Part" "isSign" "Z", Cond.fieldLink RX2 40 "SignForms$Part" "sign" "I", Cond.methodLink RX2 14 yX2_lookAtBytes, Cond.instanceMethod yX2_lookAtBytes]
def wsX4_check_r2 : List Cond := [Cond.selects RX2 yX2_lookAtBytes yX2_lookAtBytes, Cond.code yX2_lookAtBytes cX2_lookAtBytes 12 none, Cond.methodLink RX2 48 yX2_neededBy, Cond.static yX2_neededBy, Cond.code yX2_neededBy cX2_neededBy 2 (some .int), Cond.methodLink RX2 32 yX2_tellSubpart, Cond.instanceMethod yX2_tellSubpart, Cond.selects RX2 yX2_tellSubpart yX2_tellSubpart, Cond.code yX2_tellSubpart cX2_tellSubpart 2 none, Cond.methodLink RX2 52 yX2_leastBehind, Cond.static yX2_leastBehind, Cond.code yX2_leastBehind cX2_leastBehind 1 (some .int), Cond.methodLink RX2 56 yX2_mostBehind, Cond.static yX2_mostBehind, Cond.code yX2_mostBehind cX2_mostBehind 2 (some .int), Cond.methodLink RX2 59 yX0_isFirst, Cond.static yX0_isFirst, Cond.initialized RX0, Cond.code yX0_isFirst cX0_isFirst 1 (some .boolean), Cond.constant RX0 9 (55296), Cond.constant RX0 10 (56319), Cond.methodLink RX2 65 yX2_lookAtSecondHalf, Cond.instanceMethod yX2_lookAtSecondHalf, Cond.selects RX2 yX2_lookAtSecondHalf yX2_lookAtSecondHalf]
def wsX4_check_r3 : List Cond := [Cond.code yX2_lookAtSecondHalf cX2_lookAtSecondHalf 9 none, Cond.fieldLink RX2 73 "SignForms$Part" "SECOND_HALF_LEAST" "[I", Cond.fieldLink RX2 77 "SignForms$Part" "SECOND_HALF_MOST" "[I", Cond.constant RX2 80 (65535), Cond.methodLink RX2 81 yX0_joined, Cond.static yX0_joined, Cond.code yX0_joined cX0_joined 2 (some .int), Cond.constant RX0 13 (65536), Cond.constant RX0 11 (56320), Cond.methodLink RX2 69 yX2_tellSign, Cond.instanceMethod yX2_tellSign, Cond.selects RX2 yX2_tellSign yX2_tellSign, Cond.code yX2_tellSign cX2_tellSign 3 none, Cond.methodLink RX2 18 yX2_lookAtPairs, Cond.instanceMethod yX2_lookAtPairs, Cond.selects RX2 yX2_lookAtPairs yX2_lookAtPairs, Cond.code yX2_lookAtPairs cX2_lookAtPairs 7 none, Cond.methodLink RX2 84 yX2_unit, Cond.static yX2_unit, Cond.code yX2_unit cX2_unit 7 (some .int), Cond.methodLink RX2 88 yX0_isSecond, Cond.static yX0_isSecond, Cond.code yX0_isSecond cX0_isSecond 1 (some .boolean), Cond.constant RX0 12 (57343)]
def wsX4_check_r4 : List Cond := [Cond.methodLink RX2 21 yX2_lookAtFour, Cond.instanceMethod yX2_lookAtFour, Cond.selects RX2 yX2_lookAtFour yX2_lookAtFour, Cond.code yX2_lookAtFour cX2_lookAtFour 7 none, Cond.constant RX2 91 (1114111), Cond.methodLink RX2 28 yX2_cutLength, Cond.static yX2_cutLength, Cond.code yX2_cutLength cX2_cutLength 3 (some .int), Cond.methodLink RX2 43 Lib.Math.min.name, Cond.static Lib.Math.min.name, Cond.initialized "java/lang/Math", Cond.code Lib.Math.min.name Lib.Math.min.code 2 (some .int)]
def wsX4_check : List Cond := .code yX4_check cX4_check 4 (some .int) :: ((wsX4_check_r1 ++ (wsX4_check_r2 ++ (wsX4_check_r3 ++ wsX4_check_r4))) ++ wsX40 ++ wsX10 ++ wsX20)
def wsX4_turned : List Cond := .code yX4_turned cX4_turned 1 (some .int) :: ([])
def wsX4_rank : List Cond := .code yX4_rank cX4_rank 5 (some .long) :: ([.constant RX4 133 (65536), .methodLink RX4 134 yX0_firstOf, .static yX0_firstOf, .initialized RX0, .code yX0_firstOf cX0_firstOf 1 (some .int), .constant RX0 9 (55296), .constant RX0 13 (65536), .methodLink RX4 139 yX0_secondOf, .static yX0_secondOf, .code yX0_secondOf cX0_secondOf 1 (some .int), .constant RX0 11 (56320), .methodLink RX4 142 yX4_turned, .static yX4_turned, .initialized RX4, .code yX4_turned cX4_turned 1 (some .int)])
def wsX4_side : List Cond := .code yX4_side cX4_side 4 (some .int) :: ([])
def wsX4_order_r1 : List Cond := [Cond.fieldLink RX4 11 "SignForms" "streams" "[LSignForms$Stream;", Cond.fieldLink RX4 52 "SignForms$Stream" "signCount" "I", Cond.methodLink RX4 59 Lib.Math.min.name, Cond.static Lib.Math.min.name, Cond.initialized "java/lang/Math", Cond.code Lib.Math.min.name Lib.Math.min.code 2 (some .int), Cond.fieldLink RX4 79 "SignForms$Stream" "signs" "[I", Cond.methodLink RX4 29 yX4_isStream, Cond.instanceMethod yX4_isStream, Cond.selects RX4 yX4_isStream yX4_isStream, Cond.initialized RX4, Cond.code yX4_isStream cX4_isStream 2 (some .boolean), Cond.methodLink RX4 122 yX4_rank, Cond.static yX4_rank, Cond.code yX4_rank cX4_rank 5 (some .long), Cond.constant RX4 133 (65536), Cond.methodLink RX4 134 yX0_firstOf, Cond.static yX0_firstOf, Cond.initialized RX0, Cond.code yX0_firstOf cX0_firstOf 1 (some .int), Cond.constant RX0 9 (55296), Cond.constant RX0 13 (65536), Cond.methodLink RX4 139 yX0_secondOf, Cond.static yX0_secondOf]
def wsX4_order_r2 : List Cond := [Cond.code yX0_secondOf cX0_secondOf 1 (some .int), Cond.constant RX0 11 (56320), Cond.methodLink RX4 142 yX4_turned, Cond.static yX4_turned, Cond.code yX4_turned cX4_turned 1 (some .int), Cond.methodLink RX4 126 yX4_side, Cond.static yX4_side, Cond.code yX4_side cX4_side 4 (some .int)]
def wsX4_order : List Cond := .code yX4_order cX4_order 8 (some .int) :: ((wsX4_order_r1 ++ wsX4_order_r2) ++ wsX40 ++ wsX30)
def wsX4_among : List Cond := .code yX4_among cX4_among 5 (some .int) :: ([.fieldLink RX4 11 "SignForms" "streams" "[LSignForms$Stream;", .methodLink RX4 29 yX4_isStream, .instanceMethod yX4_isStream, .selects RX4 yX4_isStream yX4_isStream, .initialized RX4, .code yX4_isStream cX4_isStream 2 (some .boolean), .methodLink RX4 130 yX3_countAmong, .instanceMethod yX3_countAmong, .selects RX3 yX3_countAmong yX3_countAmong, .initialized RX3, .code yX3_countAmong cX3_countAmong 5 (some .int), .fieldLink RX3 47 "SignForms$Stream" "signCount" "I", .fieldLink RX3 15 "SignForms$Stream" "signs" "[I"] ++ wsX40 ++ wsX30)
def wsX5_init_r1 : List Cond := [Cond.methodLink RX5 1 objectInit, Cond.instanceMethod objectInit, Cond.code objectInit ⟨#[0xb1]⟩ 1 none, Cond.arrayClass .boolean, Cond.fieldLink RX5 7 "SignFormsModel" "isOpen" "[Z", Cond.fieldLink RX5 13 "SignFormsModel" "isEnded" "[Z", Cond.arrayClass .int, Cond.fieldLink RX5 16 "SignFormsModel" "told" "[I", Cond.fieldLink RX5 20 "SignFormsModel" "form" "[I", Cond.fieldLink RX5 23 "SignFormsModel" "policy" "[I", Cond.fieldLink RX5 26 "SignFormsModel" "came" "[I", Cond.fieldLink RX5 29 "SignFormsModel" "many" "[I", Cond.fieldLink RX5 32 "SignFormsModel" "value" "[I", Cond.fieldLink RX5 35 "SignFormsModel" "place" "[I", Cond.fieldLink RX5 38 "SignFormsModel" "length" "[I", Cond.fieldLink RX5 41 "SignFormsModel" "isMade" "[Z", Cond.fieldLink RX5 44 "SignFormsModel" "signs" "[I", Cond.fieldLink RX5 47 "SignFormsModel" "subparts" "[I", Cond.fieldLink RX5 50 "SignFormsModel" "open" "[I", Cond.fieldLink RX5 53 "SignFormsModel" "broken" "[I", Cond.fieldLink RX5 56 "SignFormsModel" "firstSubpart" "[I", Cond.fieldLink RX5 59 "SignFormsModel" "isMarked" "[Z", Cond.fieldLink RX5 62 "SignFormsModel" "out" "[I", Cond.fieldLink RX5 65 "SignFormsModel" "row" "[I"]
def wsX5_init_r2 : List Cond := [Cond.fieldLink RX5 68 "SignFormsModel" "outSize" "I"]
def wsX5_init : List Cond := .code yX5_init cX5_init 1 none :: ((wsX5_init_r1 ++ wsX5_init_r2) ++ wsX50)
def wsX5_isStream : List Cond := .code yX5_isStream cX5_isStream 1 (some .boolean) :: ([])
def wsX5_isForm : List Cond := .code yX5_isForm cX5_isForm 1 (some .boolean) :: ([])
def wsX5_isBetween : List Cond := .code yX5_isBetween cX5_isBetween 3 (some .boolean) :: ([])
def wsX5_part : List Cond := .code yX5_part cX5_part 3 (some .int) :: ([.fieldLink RX5 72 "SignFormsModel" "partLength" "I"] ++ wsX50)
def wsX5_wanted : List Cond := .code yX5_wanted cX5_wanted 5 (some .int) :: ([.fieldLink RX5 65 "SignFormsModel" "row" "[I", .methodLink RX5 92 yX5_isBetween, .static yX5_isBetween, .initialized RX5, .code yX5_isBetween cX5_isBetween 3 (some .boolean)] ++ wsX50)
def wsX5_goesOn : List Cond := .code yX5_goesOn cX5_goesOn 6 (some .boolean) :: ([.fieldLink RX5 65 "SignFormsModel" "row" "[I", .methodLink RX5 92 yX5_isBetween, .static yX5_isBetween, .initialized RX5, .code yX5_isBetween cX5_isBetween 3 (some .boolean)] ++ wsX50)
def wsX5_numberOf3 : List Cond := .code yX5_numberOf3 cX5_numberOf3 2 (some .int) :: ([.fieldLink RX5 65 "SignFormsModel" "row" "[I"] ++ wsX50)
def wsX5_numberOf : List Cond := .code yX5_numberOf cX5_numberOf 5 (some .int) :: ([.constant RX5 101 (65536), .constant RX5 90 (55296), .constant RX5 100 (56320), .fieldLink RX5 65 "SignFormsModel" "row" "[I", .methodLink RX5 113 yX5_numberOf3, .instanceMethod yX5_numberOf3, .selects RX5 yX5_numberOf3 yX5_numberOf3, .initialized RX5, .code yX5_numberOf3 cX5_numberOf3 2 (some .int)] ++ wsX50)
def wsX5_bytesAt_r1 : List Cond := [Cond.fieldLink RX5 86 "SignFormsModel" "partValue" "I", Cond.methodLink RX5 79 yX5_part, Cond.instanceMethod yX5_part, Cond.selects RX5 yX5_part yX5_part, Cond.initialized RX5, Cond.code yX5_part cX5_part 3 (some .int), Cond.fieldLink RX5 72 "SignFormsModel" "partLength" "I", Cond.methodLink RX5 102 yX5_wanted, Cond.instanceMethod yX5_wanted, Cond.selects RX5 yX5_wanted yX5_wanted, Cond.code yX5_wanted cX5_wanted 5 (some .int), Cond.fieldLink RX5 65 "SignFormsModel" "row" "[I", Cond.methodLink RX5 92 yX5_isBetween, Cond.static yX5_isBetween, Cond.code yX5_isBetween cX5_isBetween 3 (some .boolean), Cond.methodLink RX5 106 yX5_goesOn, Cond.instanceMethod yX5_goesOn, Cond.selects RX5 yX5_goesOn yX5_goesOn, Cond.code yX5_goesOn cX5_goesOn 6 (some .boolean), Cond.methodLink RX5 110 yX5_numberOf, Cond.instanceMethod yX5_numberOf, Cond.selects RX5 yX5_numberOf yX5_numberOf, Cond.code yX5_numberOf cX5_numberOf 5 (some .int), Cond.constant RX5 101 (65536)]
def wsX5_bytesAt_r2 : List Cond := [Cond.constant RX5 90 (55296), Cond.constant RX5 100 (56320), Cond.methodLink RX5 113 yX5_numberOf3, Cond.instanceMethod yX5_numberOf3, Cond.selects RX5 yX5_numberOf3 yX5_numberOf3, Cond.code yX5_numberOf3 cX5_numberOf3 2 (some .int)]
def wsX5_bytesAt : List Cond := .code yX5_bytesAt cX5_bytesAt 7 (some .int) :: ((wsX5_bytesAt_r1 ++ wsX5_bytesAt_r2) ++ wsX50)
def wsX5_unitAt : List Cond := .code yX5_unitAt cX5_unitAt 3 (some .int) :: ([.fieldLink RX5 65 "SignFormsModel" "row" "[I"] ++ wsX50)
def wsX5_pairsAt : List Cond := .code yX5_pairsAt cX5_pairsAt 7 (some .int) :: ([.fieldLink RX5 86 "SignFormsModel" "partValue" "I", .constant RX5 90 (55296), .constant RX5 91 (57343), .constant RX5 100 (56320), .constant RX5 101 (65536), .methodLink RX5 92 yX5_isBetween, .static yX5_isBetween, .initialized RX5, .code yX5_isBetween cX5_isBetween 3 (some .boolean), .methodLink RX5 79 yX5_part, .instanceMethod yX5_part, .selects RX5 yX5_part yX5_part, .code yX5_part cX5_part 3 (some .int), .fieldLink RX5 72 "SignFormsModel" "partLength" "I", .methodLink RX5 83 yX5_unitAt, .instanceMethod yX5_unitAt, .selects RX5 yX5_unitAt yX5_unitAt, .code yX5_unitAt cX5_unitAt 3 (some .int), .fieldLink RX5 65 "SignFormsModel" "row" "[I"] ++ wsX50)
def wsX5_partAt_r1 : List Cond := [Cond.fieldLink RX5 86 "SignFormsModel" "partValue" "I", Cond.constant RX5 89 (1114111), Cond.constant RX5 90 (55296), Cond.constant RX5 91 (57343), Cond.methodLink RX5 75 yX5_bytesAt, Cond.instanceMethod yX5_bytesAt, Cond.selects RX5 yX5_bytesAt yX5_bytesAt, Cond.initialized RX5, Cond.code yX5_bytesAt cX5_bytesAt 7 (some .int), Cond.methodLink RX5 79 yX5_part, Cond.instanceMethod yX5_part, Cond.selects RX5 yX5_part yX5_part, Cond.code yX5_part cX5_part 3 (some .int), Cond.fieldLink RX5 72 "SignFormsModel" "partLength" "I", Cond.methodLink RX5 102 yX5_wanted, Cond.instanceMethod yX5_wanted, Cond.selects RX5 yX5_wanted yX5_wanted, Cond.code yX5_wanted cX5_wanted 5 (some .int), Cond.fieldLink RX5 65 "SignFormsModel" "row" "[I", Cond.methodLink RX5 92 yX5_isBetween, Cond.static yX5_isBetween, Cond.code yX5_isBetween cX5_isBetween 3 (some .boolean), Cond.methodLink RX5 106 yX5_goesOn, Cond.instanceMethod yX5_goesOn]
def wsX5_partAt_r2 : List Cond := [Cond.selects RX5 yX5_goesOn yX5_goesOn, Cond.code yX5_goesOn cX5_goesOn 6 (some .boolean), Cond.methodLink RX5 110 yX5_numberOf, Cond.instanceMethod yX5_numberOf, Cond.selects RX5 yX5_numberOf yX5_numberOf, Cond.code yX5_numberOf cX5_numberOf 5 (some .int), Cond.constant RX5 101 (65536), Cond.constant RX5 100 (56320), Cond.methodLink RX5 113 yX5_numberOf3, Cond.instanceMethod yX5_numberOf3, Cond.selects RX5 yX5_numberOf3 yX5_numberOf3, Cond.code yX5_numberOf3 cX5_numberOf3 2 (some .int), Cond.methodLink RX5 83 yX5_unitAt, Cond.instanceMethod yX5_unitAt, Cond.selects RX5 yX5_unitAt yX5_unitAt, Cond.code yX5_unitAt cX5_unitAt 3 (some .int), Cond.methodLink RX5 96 yX5_pairsAt, Cond.instanceMethod yX5_pairsAt, Cond.selects RX5 yX5_pairsAt yX5_pairsAt, Cond.code yX5_pairsAt cX5_pairsAt 7 (some .int)]
def wsX5_partAt : List Cond := .code yX5_partAt cX5_partAt 9 (some .int) :: ((wsX5_partAt_r1 ++ wsX5_partAt_r2) ++ wsX50)
def wsX5_isBegun : List Cond := .code yX5_isBegun cX5_isBegun 10 (some .boolean) :: ([.fieldLink RX5 65 "SignFormsModel" "row" "[I"] ++ wsX50)
def wsX5_findForm : List Cond := .code yX5_findForm cX5_findForm 5 (some .int) :: ([.fieldLink RX5 86 "SignFormsModel" "partValue" "I", .methodLink RX5 117 yX5_isBegun, .instanceMethod yX5_isBegun, .selects RX5 yX5_isBegun yX5_isBegun, .initialized RX5, .code yX5_isBegun cX5_isBegun 10 (some .boolean), .fieldLink RX5 65 "SignFormsModel" "row" "[I"] ++ wsX50)
def wsX5_add : List Cond := .code yX5_add cX5_add 7 none :: ([.fieldLink RX5 44 "SignFormsModel" "signs" "[I", .fieldLink RX5 32 "SignFormsModel" "value" "[I", .fieldLink RX5 35 "SignFormsModel" "place" "[I", .fieldLink RX5 38 "SignFormsModel" "length" "[I", .fieldLink RX5 41 "SignFormsModel" "isMade" "[Z"] ++ wsX50)
def wsX5_findAll_r1 : List Cond := [Cond.fieldLink RX5 29 "SignFormsModel" "many" "[I", Cond.fieldLink RX5 65 "SignFormsModel" "row" "[I", Cond.fieldLink RX5 26 "SignFormsModel" "came" "[I", Cond.fieldLink RX5 44 "SignFormsModel" "signs" "[I", Cond.fieldLink RX5 47 "SignFormsModel" "subparts" "[I", Cond.fieldLink RX5 53 "SignFormsModel" "broken" "[I", Cond.fieldLink RX5 56 "SignFormsModel" "firstSubpart" "[I", Cond.fieldLink RX5 59 "SignFormsModel" "isMarked" "[Z", Cond.fieldLink RX5 50 "SignFormsModel" "open" "[I", Cond.fieldLink RX5 20 "SignFormsModel" "form" "[I", Cond.fieldLink RX5 16 "SignFormsModel" "told" "[I", Cond.fieldLink RX5 13 "SignFormsModel" "isEnded" "[Z", Cond.fieldLink RX5 86 "SignFormsModel" "partValue" "I", Cond.fieldLink RX5 72 "SignFormsModel" "partLength" "I", Cond.fieldLink RX5 23 "SignFormsModel" "policy" "[I", Cond.constant RX5 133 (65533), Cond.methodLink RX5 121 yX5_findForm, Cond.instanceMethod yX5_findForm, Cond.selects RX5 yX5_findForm yX5_findForm, Cond.initialized RX5, Cond.code yX5_findForm cX5_findForm 5 (some .int), Cond.methodLink RX5 117 yX5_isBegun, Cond.instanceMethod yX5_isBegun, Cond.selects RX5 yX5_isBegun yX5_isBegun]
def wsX5_findAll_r2 : List Cond := [Cond.code yX5_isBegun cX5_isBegun 10 (some .boolean), Cond.methodLink RX5 125 yX5_partAt, Cond.instanceMethod yX5_partAt, Cond.selects RX5 yX5_partAt yX5_partAt, Cond.code yX5_partAt cX5_partAt 9 (some .int), Cond.constant RX5 89 (1114111), Cond.constant RX5 90 (55296), Cond.constant RX5 91 (57343), Cond.methodLink RX5 75 yX5_bytesAt, Cond.instanceMethod yX5_bytesAt, Cond.selects RX5 yX5_bytesAt yX5_bytesAt, Cond.code yX5_bytesAt cX5_bytesAt 7 (some .int), Cond.methodLink RX5 79 yX5_part, Cond.instanceMethod yX5_part, Cond.selects RX5 yX5_part yX5_part, Cond.code yX5_part cX5_part 3 (some .int), Cond.methodLink RX5 102 yX5_wanted, Cond.instanceMethod yX5_wanted, Cond.selects RX5 yX5_wanted yX5_wanted, Cond.code yX5_wanted cX5_wanted 5 (some .int), Cond.methodLink RX5 92 yX5_isBetween, Cond.static yX5_isBetween, Cond.code yX5_isBetween cX5_isBetween 3 (some .boolean), Cond.methodLink RX5 106 yX5_goesOn]
def wsX5_findAll_r3 : List Cond := [Cond.instanceMethod yX5_goesOn, Cond.selects RX5 yX5_goesOn yX5_goesOn, Cond.code yX5_goesOn cX5_goesOn 6 (some .boolean), Cond.methodLink RX5 110 yX5_numberOf, Cond.instanceMethod yX5_numberOf, Cond.selects RX5 yX5_numberOf yX5_numberOf, Cond.code yX5_numberOf cX5_numberOf 5 (some .int), Cond.constant RX5 101 (65536), Cond.constant RX5 100 (56320), Cond.methodLink RX5 113 yX5_numberOf3, Cond.instanceMethod yX5_numberOf3, Cond.selects RX5 yX5_numberOf3 yX5_numberOf3, Cond.code yX5_numberOf3 cX5_numberOf3 2 (some .int), Cond.methodLink RX5 83 yX5_unitAt, Cond.instanceMethod yX5_unitAt, Cond.selects RX5 yX5_unitAt yX5_unitAt, Cond.code yX5_unitAt cX5_unitAt 3 (some .int), Cond.methodLink RX5 96 yX5_pairsAt, Cond.instanceMethod yX5_pairsAt, Cond.selects RX5 yX5_pairsAt yX5_pairsAt, Cond.code yX5_pairsAt cX5_pairsAt 7 (some .int), Cond.methodLink RX5 129 yX5_add, Cond.instanceMethod yX5_add, Cond.selects RX5 yX5_add yX5_add]
def wsX5_findAll_r4 : List Cond := [Cond.code yX5_add cX5_add 7 none, Cond.fieldLink RX5 32 "SignFormsModel" "value" "[I", Cond.fieldLink RX5 35 "SignFormsModel" "place" "[I", Cond.fieldLink RX5 38 "SignFormsModel" "length" "[I", Cond.fieldLink RX5 41 "SignFormsModel" "isMade" "[Z"]
def wsX5_findAll : List Cond := .code yX5_findAll cX5_findAll 6 none :: ((wsX5_findAll_r1 ++ (wsX5_findAll_r2 ++ (wsX5_findAll_r3 ++ wsX5_findAll_r4))) ++ wsX50)
def wsX5_open_r1 : List Cond := [Cond.fieldLink RX5 7 "SignFormsModel" "isOpen" "[Z", Cond.fieldLink RX5 13 "SignFormsModel" "isEnded" "[Z", Cond.fieldLink RX5 16 "SignFormsModel" "told" "[I", Cond.fieldLink RX5 23 "SignFormsModel" "policy" "[I", Cond.fieldLink RX5 29 "SignFormsModel" "many" "[I", Cond.methodLink RX5 134 yX5_isStream, Cond.static yX5_isStream, Cond.initialized RX5, Cond.code yX5_isStream cX5_isStream 1 (some .boolean), Cond.methodLink RX5 138 yX5_findAll, Cond.instanceMethod yX5_findAll, Cond.selects RX5 yX5_findAll yX5_findAll, Cond.code yX5_findAll cX5_findAll 6 none, Cond.fieldLink RX5 65 "SignFormsModel" "row" "[I", Cond.fieldLink RX5 26 "SignFormsModel" "came" "[I", Cond.fieldLink RX5 44 "SignFormsModel" "signs" "[I", Cond.fieldLink RX5 47 "SignFormsModel" "subparts" "[I", Cond.fieldLink RX5 53 "SignFormsModel" "broken" "[I", Cond.fieldLink RX5 56 "SignFormsModel" "firstSubpart" "[I", Cond.fieldLink RX5 59 "SignFormsModel" "isMarked" "[Z", Cond.fieldLink RX5 50 "SignFormsModel" "open" "[I", Cond.fieldLink RX5 20 "SignFormsModel" "form" "[I", Cond.fieldLink RX5 86 "SignFormsModel" "partValue" "I", Cond.fieldLink RX5 72 "SignFormsModel" "partLength" "I"]
def wsX5_open_r2 : List Cond := [Cond.constant RX5 133 (65533), Cond.methodLink RX5 121 yX5_findForm, Cond.instanceMethod yX5_findForm, Cond.selects RX5 yX5_findForm yX5_findForm, Cond.code yX5_findForm cX5_findForm 5 (some .int), Cond.methodLink RX5 117 yX5_isBegun, Cond.instanceMethod yX5_isBegun, Cond.selects RX5 yX5_isBegun yX5_isBegun, Cond.code yX5_isBegun cX5_isBegun 10 (some .boolean), Cond.methodLink RX5 125 yX5_partAt, Cond.instanceMethod yX5_partAt, Cond.selects RX5 yX5_partAt yX5_partAt, Cond.code yX5_partAt cX5_partAt 9 (some .int), Cond.constant RX5 89 (1114111), Cond.constant RX5 90 (55296), Cond.constant RX5 91 (57343), Cond.methodLink RX5 75 yX5_bytesAt, Cond.instanceMethod yX5_bytesAt, Cond.selects RX5 yX5_bytesAt yX5_bytesAt, Cond.code yX5_bytesAt cX5_bytesAt 7 (some .int), Cond.methodLink RX5 79 yX5_part, Cond.instanceMethod yX5_part, Cond.selects RX5 yX5_part yX5_part, Cond.code yX5_part cX5_part 3 (some .int)]
def wsX5_open_r3 : List Cond := [Cond.methodLink RX5 102 yX5_wanted, Cond.instanceMethod yX5_wanted, Cond.selects RX5 yX5_wanted yX5_wanted, Cond.code yX5_wanted cX5_wanted 5 (some .int), Cond.methodLink RX5 92 yX5_isBetween, Cond.static yX5_isBetween, Cond.code yX5_isBetween cX5_isBetween 3 (some .boolean), Cond.methodLink RX5 106 yX5_goesOn, Cond.instanceMethod yX5_goesOn, Cond.selects RX5 yX5_goesOn yX5_goesOn, Cond.code yX5_goesOn cX5_goesOn 6 (some .boolean), Cond.methodLink RX5 110 yX5_numberOf, Cond.instanceMethod yX5_numberOf, Cond.selects RX5 yX5_numberOf yX5_numberOf, Cond.code yX5_numberOf cX5_numberOf 5 (some .int), Cond.constant RX5 101 (65536), Cond.constant RX5 100 (56320), Cond.methodLink RX5 113 yX5_numberOf3, Cond.instanceMethod yX5_numberOf3, Cond.selects RX5 yX5_numberOf3 yX5_numberOf3, Cond.code yX5_numberOf3 cX5_numberOf3 2 (some .int), Cond.methodLink RX5 83 yX5_unitAt, Cond.instanceMethod yX5_unitAt, Cond.selects RX5 yX5_unitAt yX5_unitAt]
def wsX5_open_r4 : List Cond := [Cond.code yX5_unitAt cX5_unitAt 3 (some .int), Cond.methodLink RX5 96 yX5_pairsAt, Cond.instanceMethod yX5_pairsAt, Cond.selects RX5 yX5_pairsAt yX5_pairsAt, Cond.code yX5_pairsAt cX5_pairsAt 7 (some .int), Cond.methodLink RX5 129 yX5_add, Cond.instanceMethod yX5_add, Cond.selects RX5 yX5_add yX5_add, Cond.code yX5_add cX5_add 7 none, Cond.fieldLink RX5 32 "SignFormsModel" "value" "[I", Cond.fieldLink RX5 35 "SignFormsModel" "place" "[I", Cond.fieldLink RX5 38 "SignFormsModel" "length" "[I", Cond.fieldLink RX5 41 "SignFormsModel" "isMade" "[Z"]
def wsX5_open : List Cond := .code yX5_open cX5_open 4 (some .boolean) :: ((wsX5_open_r1 ++ (wsX5_open_r2 ++ (wsX5_open_r3 ++ wsX5_open_r4))) ++ wsX50)
def wsX5_takes : List Cond := .code yX5_takes cX5_takes 2 (some .boolean) :: ([.fieldLink RX5 7 "SignFormsModel" "isOpen" "[Z", .fieldLink RX5 13 "SignFormsModel" "isEnded" "[Z"] ++ wsX50)
def wsX5_put_r1 : List Cond := [Cond.fieldLink RX5 29 "SignFormsModel" "many" "[I", Cond.fieldLink RX5 26 "SignFormsModel" "came" "[I", Cond.fieldLink RX5 44 "SignFormsModel" "signs" "[I", Cond.methodLink RX5 134 yX5_isStream, Cond.static yX5_isStream, Cond.initialized RX5, Cond.code yX5_isStream cX5_isStream 1 (some .boolean), Cond.methodLink RX5 142 yX5_takes, Cond.instanceMethod yX5_takes, Cond.selects RX5 yX5_takes yX5_takes, Cond.code yX5_takes cX5_takes 2 (some .boolean), Cond.fieldLink RX5 7 "SignFormsModel" "isOpen" "[Z", Cond.fieldLink RX5 13 "SignFormsModel" "isEnded" "[Z", Cond.methodLink RX5 138 yX5_findAll, Cond.instanceMethod yX5_findAll, Cond.selects RX5 yX5_findAll yX5_findAll, Cond.code yX5_findAll cX5_findAll 6 none, Cond.fieldLink RX5 65 "SignFormsModel" "row" "[I", Cond.fieldLink RX5 47 "SignFormsModel" "subparts" "[I", Cond.fieldLink RX5 53 "SignFormsModel" "broken" "[I", Cond.fieldLink RX5 56 "SignFormsModel" "firstSubpart" "[I", Cond.fieldLink RX5 59 "SignFormsModel" "isMarked" "[Z", Cond.fieldLink RX5 50 "SignFormsModel" "open" "[I", Cond.fieldLink RX5 20 "SignFormsModel" "form" "[I"]
def wsX5_put_r2 : List Cond := [Cond.fieldLink RX5 16 "SignFormsModel" "told" "[I", Cond.fieldLink RX5 86 "SignFormsModel" "partValue" "I", Cond.fieldLink RX5 72 "SignFormsModel" "partLength" "I", Cond.fieldLink RX5 23 "SignFormsModel" "policy" "[I", Cond.constant RX5 133 (65533), Cond.methodLink RX5 121 yX5_findForm, Cond.instanceMethod yX5_findForm, Cond.selects RX5 yX5_findForm yX5_findForm, Cond.code yX5_findForm cX5_findForm 5 (some .int), Cond.methodLink RX5 117 yX5_isBegun, Cond.instanceMethod yX5_isBegun, Cond.selects RX5 yX5_isBegun yX5_isBegun, Cond.code yX5_isBegun cX5_isBegun 10 (some .boolean), Cond.methodLink RX5 125 yX5_partAt, Cond.instanceMethod yX5_partAt, Cond.selects RX5 yX5_partAt yX5_partAt, Cond.code yX5_partAt cX5_partAt 9 (some .int), Cond.constant RX5 89 (1114111), Cond.constant RX5 90 (55296), Cond.constant RX5 91 (57343), Cond.methodLink RX5 75 yX5_bytesAt, Cond.instanceMethod yX5_bytesAt, Cond.selects RX5 yX5_bytesAt yX5_bytesAt, Cond.code yX5_bytesAt cX5_bytesAt 7 (some .int)]
def wsX5_put_r3 : List Cond := [Cond.methodLink RX5 79 yX5_part, Cond.instanceMethod yX5_part, Cond.selects RX5 yX5_part yX5_part, Cond.code yX5_part cX5_part 3 (some .int), Cond.methodLink RX5 102 yX5_wanted, Cond.instanceMethod yX5_wanted, Cond.selects RX5 yX5_wanted yX5_wanted, Cond.code yX5_wanted cX5_wanted 5 (some .int), Cond.methodLink RX5 92 yX5_isBetween, Cond.static yX5_isBetween, Cond.code yX5_isBetween cX5_isBetween 3 (some .boolean), Cond.methodLink RX5 106 yX5_goesOn, Cond.instanceMethod yX5_goesOn, Cond.selects RX5 yX5_goesOn yX5_goesOn, Cond.code yX5_goesOn cX5_goesOn 6 (some .boolean), Cond.methodLink RX5 110 yX5_numberOf, Cond.instanceMethod yX5_numberOf, Cond.selects RX5 yX5_numberOf yX5_numberOf, Cond.code yX5_numberOf cX5_numberOf 5 (some .int), Cond.constant RX5 101 (65536), Cond.constant RX5 100 (56320), Cond.methodLink RX5 113 yX5_numberOf3, Cond.instanceMethod yX5_numberOf3, Cond.selects RX5 yX5_numberOf3 yX5_numberOf3]
def wsX5_put_r4 : List Cond := [Cond.code yX5_numberOf3 cX5_numberOf3 2 (some .int), Cond.methodLink RX5 83 yX5_unitAt, Cond.instanceMethod yX5_unitAt, Cond.selects RX5 yX5_unitAt yX5_unitAt, Cond.code yX5_unitAt cX5_unitAt 3 (some .int), Cond.methodLink RX5 96 yX5_pairsAt, Cond.instanceMethod yX5_pairsAt, Cond.selects RX5 yX5_pairsAt yX5_pairsAt, Cond.code yX5_pairsAt cX5_pairsAt 7 (some .int), Cond.methodLink RX5 129 yX5_add, Cond.instanceMethod yX5_add, Cond.selects RX5 yX5_add yX5_add, Cond.code yX5_add cX5_add 7 none, Cond.fieldLink RX5 32 "SignFormsModel" "value" "[I", Cond.fieldLink RX5 35 "SignFormsModel" "place" "[I", Cond.fieldLink RX5 38 "SignFormsModel" "length" "[I", Cond.fieldLink RX5 41 "SignFormsModel" "isMade" "[Z"]
def wsX5_put : List Cond := .code yX5_put cX5_put 6 (some .int) :: ((wsX5_put_r1 ++ (wsX5_put_r2 ++ (wsX5_put_r3 ++ wsX5_put_r4))) ++ wsX50)
def wsX5_pour_r1 : List Cond := [Cond.fieldLink RX5 68 "SignFormsModel" "outSize" "I", Cond.fieldLink RX5 29 "SignFormsModel" "many" "[I", Cond.fieldLink RX5 26 "SignFormsModel" "came" "[I", Cond.fieldLink RX5 62 "SignFormsModel" "out" "[I", Cond.methodLink RX5 134 yX5_isStream, Cond.static yX5_isStream, Cond.initialized RX5, Cond.code yX5_isStream cX5_isStream 1 (some .boolean), Cond.methodLink RX5 142 yX5_takes, Cond.instanceMethod yX5_takes, Cond.selects RX5 yX5_takes yX5_takes, Cond.code yX5_takes cX5_takes 2 (some .boolean), Cond.fieldLink RX5 7 "SignFormsModel" "isOpen" "[Z", Cond.fieldLink RX5 13 "SignFormsModel" "isEnded" "[Z", Cond.methodLink RX5 138 yX5_findAll, Cond.instanceMethod yX5_findAll, Cond.selects RX5 yX5_findAll yX5_findAll, Cond.code yX5_findAll cX5_findAll 6 none, Cond.fieldLink RX5 65 "SignFormsModel" "row" "[I", Cond.fieldLink RX5 44 "SignFormsModel" "signs" "[I", Cond.fieldLink RX5 47 "SignFormsModel" "subparts" "[I", Cond.fieldLink RX5 53 "SignFormsModel" "broken" "[I", Cond.fieldLink RX5 56 "SignFormsModel" "firstSubpart" "[I", Cond.fieldLink RX5 59 "SignFormsModel" "isMarked" "[Z"]
def wsX5_pour_r2 : List Cond := [Cond.fieldLink RX5 50 "SignFormsModel" "open" "[I", Cond.fieldLink RX5 20 "SignFormsModel" "form" "[I", Cond.fieldLink RX5 16 "SignFormsModel" "told" "[I", Cond.fieldLink RX5 86 "SignFormsModel" "partValue" "I", Cond.fieldLink RX5 72 "SignFormsModel" "partLength" "I", Cond.fieldLink RX5 23 "SignFormsModel" "policy" "[I", Cond.constant RX5 133 (65533), Cond.methodLink RX5 121 yX5_findForm, Cond.instanceMethod yX5_findForm, Cond.selects RX5 yX5_findForm yX5_findForm, Cond.code yX5_findForm cX5_findForm 5 (some .int), Cond.methodLink RX5 117 yX5_isBegun, Cond.instanceMethod yX5_isBegun, Cond.selects RX5 yX5_isBegun yX5_isBegun, Cond.code yX5_isBegun cX5_isBegun 10 (some .boolean), Cond.methodLink RX5 125 yX5_partAt, Cond.instanceMethod yX5_partAt, Cond.selects RX5 yX5_partAt yX5_partAt, Cond.code yX5_partAt cX5_partAt 9 (some .int), Cond.constant RX5 89 (1114111), Cond.constant RX5 90 (55296), Cond.constant RX5 91 (57343), Cond.methodLink RX5 75 yX5_bytesAt, Cond.instanceMethod yX5_bytesAt]
def wsX5_pour_r3 : List Cond := [Cond.selects RX5 yX5_bytesAt yX5_bytesAt, Cond.code yX5_bytesAt cX5_bytesAt 7 (some .int), Cond.methodLink RX5 79 yX5_part, Cond.instanceMethod yX5_part, Cond.selects RX5 yX5_part yX5_part, Cond.code yX5_part cX5_part 3 (some .int), Cond.methodLink RX5 102 yX5_wanted, Cond.instanceMethod yX5_wanted, Cond.selects RX5 yX5_wanted yX5_wanted, Cond.code yX5_wanted cX5_wanted 5 (some .int), Cond.methodLink RX5 92 yX5_isBetween, Cond.static yX5_isBetween, Cond.code yX5_isBetween cX5_isBetween 3 (some .boolean), Cond.methodLink RX5 106 yX5_goesOn, Cond.instanceMethod yX5_goesOn, Cond.selects RX5 yX5_goesOn yX5_goesOn, Cond.code yX5_goesOn cX5_goesOn 6 (some .boolean), Cond.methodLink RX5 110 yX5_numberOf, Cond.instanceMethod yX5_numberOf, Cond.selects RX5 yX5_numberOf yX5_numberOf, Cond.code yX5_numberOf cX5_numberOf 5 (some .int), Cond.constant RX5 101 (65536), Cond.constant RX5 100 (56320), Cond.methodLink RX5 113 yX5_numberOf3]
def wsX5_pour_r4 : List Cond := [Cond.instanceMethod yX5_numberOf3, Cond.selects RX5 yX5_numberOf3 yX5_numberOf3, Cond.code yX5_numberOf3 cX5_numberOf3 2 (some .int), Cond.methodLink RX5 83 yX5_unitAt, Cond.instanceMethod yX5_unitAt, Cond.selects RX5 yX5_unitAt yX5_unitAt, Cond.code yX5_unitAt cX5_unitAt 3 (some .int), Cond.methodLink RX5 96 yX5_pairsAt, Cond.instanceMethod yX5_pairsAt, Cond.selects RX5 yX5_pairsAt yX5_pairsAt, Cond.code yX5_pairsAt cX5_pairsAt 7 (some .int), Cond.methodLink RX5 129 yX5_add, Cond.instanceMethod yX5_add, Cond.selects RX5 yX5_add yX5_add, Cond.code yX5_add cX5_add 7 none, Cond.fieldLink RX5 32 "SignFormsModel" "value" "[I", Cond.fieldLink RX5 35 "SignFormsModel" "place" "[I", Cond.fieldLink RX5 38 "SignFormsModel" "length" "[I", Cond.fieldLink RX5 41 "SignFormsModel" "isMade" "[Z"]
def wsX5_pour : List Cond := .code yX5_pour cX5_pour 6 (some .int) :: ((wsX5_pour_r1 ++ (wsX5_pour_r2 ++ (wsX5_pour_r3 ++ wsX5_pour_r4))) ++ wsX50)
def wsX5_end_r1 : List Cond := [Cond.fieldLink RX5 13 "SignFormsModel" "isEnded" "[Z", Cond.fieldLink RX5 44 "SignFormsModel" "signs" "[I", Cond.methodLink RX5 134 yX5_isStream, Cond.static yX5_isStream, Cond.initialized RX5, Cond.code yX5_isStream cX5_isStream 1 (some .boolean), Cond.methodLink RX5 142 yX5_takes, Cond.instanceMethod yX5_takes, Cond.selects RX5 yX5_takes yX5_takes, Cond.code yX5_takes cX5_takes 2 (some .boolean), Cond.fieldLink RX5 7 "SignFormsModel" "isOpen" "[Z", Cond.methodLink RX5 138 yX5_findAll, Cond.instanceMethod yX5_findAll, Cond.selects RX5 yX5_findAll yX5_findAll, Cond.code yX5_findAll cX5_findAll 6 none, Cond.fieldLink RX5 29 "SignFormsModel" "many" "[I", Cond.fieldLink RX5 65 "SignFormsModel" "row" "[I", Cond.fieldLink RX5 26 "SignFormsModel" "came" "[I", Cond.fieldLink RX5 47 "SignFormsModel" "subparts" "[I", Cond.fieldLink RX5 53 "SignFormsModel" "broken" "[I", Cond.fieldLink RX5 56 "SignFormsModel" "firstSubpart" "[I", Cond.fieldLink RX5 59 "SignFormsModel" "isMarked" "[Z", Cond.fieldLink RX5 50 "SignFormsModel" "open" "[I", Cond.fieldLink RX5 20 "SignFormsModel" "form" "[I"]
def wsX5_end_r2 : List Cond := [Cond.fieldLink RX5 16 "SignFormsModel" "told" "[I", Cond.fieldLink RX5 86 "SignFormsModel" "partValue" "I", Cond.fieldLink RX5 72 "SignFormsModel" "partLength" "I", Cond.fieldLink RX5 23 "SignFormsModel" "policy" "[I", Cond.constant RX5 133 (65533), Cond.methodLink RX5 121 yX5_findForm, Cond.instanceMethod yX5_findForm, Cond.selects RX5 yX5_findForm yX5_findForm, Cond.code yX5_findForm cX5_findForm 5 (some .int), Cond.methodLink RX5 117 yX5_isBegun, Cond.instanceMethod yX5_isBegun, Cond.selects RX5 yX5_isBegun yX5_isBegun, Cond.code yX5_isBegun cX5_isBegun 10 (some .boolean), Cond.methodLink RX5 125 yX5_partAt, Cond.instanceMethod yX5_partAt, Cond.selects RX5 yX5_partAt yX5_partAt, Cond.code yX5_partAt cX5_partAt 9 (some .int), Cond.constant RX5 89 (1114111), Cond.constant RX5 90 (55296), Cond.constant RX5 91 (57343), Cond.methodLink RX5 75 yX5_bytesAt, Cond.instanceMethod yX5_bytesAt, Cond.selects RX5 yX5_bytesAt yX5_bytesAt, Cond.code yX5_bytesAt cX5_bytesAt 7 (some .int)]
def wsX5_end_r3 : List Cond := [Cond.methodLink RX5 79 yX5_part, Cond.instanceMethod yX5_part, Cond.selects RX5 yX5_part yX5_part, Cond.code yX5_part cX5_part 3 (some .int), Cond.methodLink RX5 102 yX5_wanted, Cond.instanceMethod yX5_wanted, Cond.selects RX5 yX5_wanted yX5_wanted, Cond.code yX5_wanted cX5_wanted 5 (some .int), Cond.methodLink RX5 92 yX5_isBetween, Cond.static yX5_isBetween, Cond.code yX5_isBetween cX5_isBetween 3 (some .boolean), Cond.methodLink RX5 106 yX5_goesOn, Cond.instanceMethod yX5_goesOn, Cond.selects RX5 yX5_goesOn yX5_goesOn, Cond.code yX5_goesOn cX5_goesOn 6 (some .boolean), Cond.methodLink RX5 110 yX5_numberOf, Cond.instanceMethod yX5_numberOf, Cond.selects RX5 yX5_numberOf yX5_numberOf, Cond.code yX5_numberOf cX5_numberOf 5 (some .int), Cond.constant RX5 101 (65536), Cond.constant RX5 100 (56320), Cond.methodLink RX5 113 yX5_numberOf3, Cond.instanceMethod yX5_numberOf3, Cond.selects RX5 yX5_numberOf3 yX5_numberOf3]
def wsX5_end_r4 : List Cond := [Cond.code yX5_numberOf3 cX5_numberOf3 2 (some .int), Cond.methodLink RX5 83 yX5_unitAt, Cond.instanceMethod yX5_unitAt, Cond.selects RX5 yX5_unitAt yX5_unitAt, Cond.code yX5_unitAt cX5_unitAt 3 (some .int), Cond.methodLink RX5 96 yX5_pairsAt, Cond.instanceMethod yX5_pairsAt, Cond.selects RX5 yX5_pairsAt yX5_pairsAt, Cond.code yX5_pairsAt cX5_pairsAt 7 (some .int), Cond.methodLink RX5 129 yX5_add, Cond.instanceMethod yX5_add, Cond.selects RX5 yX5_add yX5_add, Cond.code yX5_add cX5_add 7 none, Cond.fieldLink RX5 32 "SignFormsModel" "value" "[I", Cond.fieldLink RX5 35 "SignFormsModel" "place" "[I", Cond.fieldLink RX5 38 "SignFormsModel" "length" "[I", Cond.fieldLink RX5 41 "SignFormsModel" "isMade" "[Z"]
def wsX5_end : List Cond := .code yX5_end cX5_end 2 (some .int) :: ((wsX5_end_r1 ++ (wsX5_end_r2 ++ (wsX5_end_r3 ++ wsX5_end_r4))) ++ wsX50)
def wsX5_about : List Cond := .code yX5_about cX5_about 3 (some .int) :: ([.fieldLink RX5 7 "SignFormsModel" "isOpen" "[Z", .fieldLink RX5 20 "SignFormsModel" "form" "[I", .fieldLink RX5 29 "SignFormsModel" "many" "[I", .fieldLink RX5 44 "SignFormsModel" "signs" "[I", .fieldLink RX5 47 "SignFormsModel" "subparts" "[I", .fieldLink RX5 50 "SignFormsModel" "open" "[I", .fieldLink RX5 13 "SignFormsModel" "isEnded" "[Z", .fieldLink RX5 53 "SignFormsModel" "broken" "[I", .fieldLink RX5 59 "SignFormsModel" "isMarked" "[Z", .fieldLink RX5 56 "SignFormsModel" "firstSubpart" "[I", .methodLink RX5 134 yX5_isStream, .static yX5_isStream, .initialized RX5, .code yX5_isStream cX5_isStream 1 (some .boolean)] ++ wsX50)
def wsX5_isSign : List Cond := .code yX5_isSign cX5_isSign 3 (some .boolean) :: ([.fieldLink RX5 7 "SignFormsModel" "isOpen" "[Z", .fieldLink RX5 44 "SignFormsModel" "signs" "[I", .methodLink RX5 134 yX5_isStream, .static yX5_isStream, .initialized RX5, .code yX5_isStream cX5_isStream 1 (some .boolean)] ++ wsX50)
def wsX5_sign : List Cond := .code yX5_sign cX5_sign 3 (some .int) :: ([.fieldLink RX5 32 "SignFormsModel" "value" "[I", .methodLink RX5 145 yX5_isSign, .instanceMethod yX5_isSign, .selects RX5 yX5_isSign yX5_isSign, .initialized RX5, .code yX5_isSign cX5_isSign 3 (some .boolean), .fieldLink RX5 7 "SignFormsModel" "isOpen" "[Z", .fieldLink RX5 44 "SignFormsModel" "signs" "[I", .methodLink RX5 134 yX5_isStream, .static yX5_isStream, .code yX5_isStream cX5_isStream 1 (some .boolean)] ++ wsX50)
def wsX5_placed : List Cond := .code yX5_placed cX5_placed 5 (some .int) :: ([.fieldLink RX5 35 "SignFormsModel" "place" "[I", .fieldLink RX5 38 "SignFormsModel" "length" "[I", .fieldLink RX5 41 "SignFormsModel" "isMade" "[Z", .methodLink RX5 145 yX5_isSign, .instanceMethod yX5_isSign, .selects RX5 yX5_isSign yX5_isSign, .initialized RX5, .code yX5_isSign cX5_isSign 3 (some .boolean), .fieldLink RX5 7 "SignFormsModel" "isOpen" "[Z", .fieldLink RX5 44 "SignFormsModel" "signs" "[I", .methodLink RX5 134 yX5_isStream, .static yX5_isStream, .code yX5_isStream cX5_isStream 1 (some .boolean)] ++ wsX50)
def wsX5_at : List Cond := .code yX5_at cX5_at 5 (some .int) :: ([.fieldLink RX5 7 "SignFormsModel" "isOpen" "[Z", .fieldLink RX5 44 "SignFormsModel" "signs" "[I", .fieldLink RX5 35 "SignFormsModel" "place" "[I", .fieldLink RX5 38 "SignFormsModel" "length" "[I", .methodLink RX5 134 yX5_isStream, .static yX5_isStream, .initialized RX5, .code yX5_isStream cX5_isStream 1 (some .boolean)] ++ wsX50)
def wsX5_sizeOf : List Cond := .code yX5_sizeOf cX5_sizeOf 3 (some .int) :: ([.constant RX5 101 (65536)])
def wsX5_lay : List Cond := .code yX5_lay cX5_lay 2 none :: ([.fieldLink RX5 65 "SignFormsModel" "row" "[I", .fieldLink RX5 149 "SignFormsModel" "written" "I"] ++ wsX50)
def wsX5_layThree : List Cond := .code yX5_layThree cX5_layThree 2 none :: ([.methodLink RX5 152 yX5_lay, .instanceMethod yX5_lay, .selects RX5 yX5_lay yX5_lay, .initialized RX5, .code yX5_lay cX5_lay 2 none, .fieldLink RX5 65 "SignFormsModel" "row" "[I", .fieldLink RX5 149 "SignFormsModel" "written" "I"] ++ wsX50)
def wsX5_layUnit : List Cond := .code yX5_layUnit cX5_layUnit 3 none :: ([.methodLink RX5 152 yX5_lay, .instanceMethod yX5_lay, .selects RX5 yX5_lay yX5_lay, .initialized RX5, .code yX5_lay cX5_lay 2 none, .fieldLink RX5 65 "SignFormsModel" "row" "[I", .fieldLink RX5 149 "SignFormsModel" "written" "I"] ++ wsX50)
def wsX5_laySign : List Cond := .code yX5_laySign cX5_laySign 7 none :: ([.constant RX5 90 (55296), .constant RX5 101 (65536), .constant RX5 100 (56320), .methodLink RX5 152 yX5_lay, .instanceMethod yX5_lay, .selects RX5 yX5_lay yX5_lay, .initialized RX5, .code yX5_lay cX5_lay 2 none, .fieldLink RX5 65 "SignFormsModel" "row" "[I", .fieldLink RX5 149 "SignFormsModel" "written" "I", .methodLink RX5 155 yX5_layUnit, .instanceMethod yX5_layUnit, .selects RX5 yX5_layUnit yX5_layUnit, .code yX5_layUnit cX5_layUnit 3 none, .methodLink RX5 159 yX5_layThree, .instanceMethod yX5_layThree, .selects RX5 yX5_layThree yX5_layThree, .code yX5_layThree cX5_layThree 2 none] ++ wsX50)
def wsX5_write_r1 : List Cond := [Cond.fieldLink RX5 7 "SignFormsModel" "isOpen" "[Z", Cond.constant RX5 165 (65279), Cond.fieldLink RX5 44 "SignFormsModel" "signs" "[I", Cond.fieldLink RX5 32 "SignFormsModel" "value" "[I", Cond.fieldLink RX5 149 "SignFormsModel" "written" "I", Cond.fieldLink RX5 62 "SignFormsModel" "out" "[I", Cond.fieldLink RX5 65 "SignFormsModel" "row" "[I", Cond.fieldLink RX5 68 "SignFormsModel" "outSize" "I", Cond.methodLink RX5 134 yX5_isStream, Cond.static yX5_isStream, Cond.initialized RX5, Cond.code yX5_isStream cX5_isStream 1 (some .boolean), Cond.methodLink RX5 162 yX5_isForm, Cond.static yX5_isForm, Cond.code yX5_isForm cX5_isForm 1 (some .boolean), Cond.methodLink RX5 166 yX5_sizeOf, Cond.static yX5_sizeOf, Cond.code yX5_sizeOf cX5_sizeOf 3 (some .int), Cond.constant RX5 101 (65536), Cond.methodLink RX5 169 yX5_laySign, Cond.instanceMethod yX5_laySign, Cond.selects RX5 yX5_laySign yX5_laySign, Cond.code yX5_laySign cX5_laySign 7 none, Cond.constant RX5 90 (55296)]
def wsX5_write_r2 : List Cond := [Cond.constant RX5 100 (56320), Cond.methodLink RX5 152 yX5_lay, Cond.instanceMethod yX5_lay, Cond.selects RX5 yX5_lay yX5_lay, Cond.code yX5_lay cX5_lay 2 none, Cond.methodLink RX5 155 yX5_layUnit, Cond.instanceMethod yX5_layUnit, Cond.selects RX5 yX5_layUnit yX5_layUnit, Cond.code yX5_layUnit cX5_layUnit 3 none, Cond.methodLink RX5 159 yX5_layThree, Cond.instanceMethod yX5_layThree, Cond.selects RX5 yX5_layThree yX5_layThree, Cond.code yX5_layThree cX5_layThree 2 none]
def wsX5_write : List Cond := .code yX5_write cX5_write 6 (some .int) :: ((wsX5_write_r1 ++ wsX5_write_r2) ++ wsX50)
def wsX5_size : List Cond := .code yX5_size cX5_size 7 (some .int) :: ([.fieldLink RX5 7 "SignFormsModel" "isOpen" "[Z", .fieldLink RX5 44 "SignFormsModel" "signs" "[I", .fieldLink RX5 32 "SignFormsModel" "value" "[I", .methodLink RX5 134 yX5_isStream, .static yX5_isStream, .initialized RX5, .code yX5_isStream cX5_isStream 1 (some .boolean), .methodLink RX5 162 yX5_isForm, .static yX5_isForm, .code yX5_isForm cX5_isForm 1 (some .boolean), .methodLink RX5 166 yX5_sizeOf, .static yX5_sizeOf, .code yX5_sizeOf cX5_sizeOf 3 (some .int), .constant RX5 101 (65536)] ++ wsX50)
def wsX5_out : List Cond := .code yX5_out cX5_out 2 (some .int) :: ([.fieldLink RX5 68 "SignFormsModel" "outSize" "I", .fieldLink RX5 62 "SignFormsModel" "out" "[I"] ++ wsX50)
def wsX5_check_r1 : List Cond := [Cond.fieldLink RX5 68 "SignFormsModel" "outSize" "I", Cond.fieldLink RX5 65 "SignFormsModel" "row" "[I", Cond.fieldLink RX5 62 "SignFormsModel" "out" "[I", Cond.fieldLink RX5 72 "SignFormsModel" "partLength" "I", Cond.methodLink RX5 162 yX5_isForm, Cond.static yX5_isForm, Cond.initialized RX5, Cond.code yX5_isForm cX5_isForm 1 (some .boolean), Cond.methodLink RX5 125 yX5_partAt, Cond.instanceMethod yX5_partAt, Cond.selects RX5 yX5_partAt yX5_partAt, Cond.code yX5_partAt cX5_partAt 9 (some .int), Cond.fieldLink RX5 86 "SignFormsModel" "partValue" "I", Cond.constant RX5 89 (1114111), Cond.constant RX5 90 (55296), Cond.constant RX5 91 (57343), Cond.methodLink RX5 75 yX5_bytesAt, Cond.instanceMethod yX5_bytesAt, Cond.selects RX5 yX5_bytesAt yX5_bytesAt, Cond.code yX5_bytesAt cX5_bytesAt 7 (some .int), Cond.methodLink RX5 79 yX5_part, Cond.instanceMethod yX5_part, Cond.selects RX5 yX5_part yX5_part, Cond.code yX5_part cX5_part 3 (some .int)]
def wsX5_check_r2 : List Cond := [Cond.methodLink RX5 102 yX5_wanted, Cond.instanceMethod yX5_wanted, Cond.selects RX5 yX5_wanted yX5_wanted, Cond.code yX5_wanted cX5_wanted 5 (some .int), Cond.methodLink RX5 92 yX5_isBetween, Cond.static yX5_isBetween, Cond.code yX5_isBetween cX5_isBetween 3 (some .boolean), Cond.methodLink RX5 106 yX5_goesOn, Cond.instanceMethod yX5_goesOn, Cond.selects RX5 yX5_goesOn yX5_goesOn, Cond.code yX5_goesOn cX5_goesOn 6 (some .boolean), Cond.methodLink RX5 110 yX5_numberOf, Cond.instanceMethod yX5_numberOf, Cond.selects RX5 yX5_numberOf yX5_numberOf, Cond.code yX5_numberOf cX5_numberOf 5 (some .int), Cond.constant RX5 101 (65536), Cond.constant RX5 100 (56320), Cond.methodLink RX5 113 yX5_numberOf3, Cond.instanceMethod yX5_numberOf3, Cond.selects RX5 yX5_numberOf3 yX5_numberOf3, Cond.code yX5_numberOf3 cX5_numberOf3 2 (some .int), Cond.methodLink RX5 83 yX5_unitAt, Cond.instanceMethod yX5_unitAt, Cond.selects RX5 yX5_unitAt yX5_unitAt]
def wsX5_check_r3 : List Cond := [Cond.code yX5_unitAt cX5_unitAt 3 (some .int), Cond.methodLink RX5 96 yX5_pairsAt, Cond.instanceMethod yX5_pairsAt, Cond.selects RX5 yX5_pairsAt yX5_pairsAt, Cond.code yX5_pairsAt cX5_pairsAt 7 (some .int)]
def wsX5_check : List Cond := .code yX5_check cX5_check 3 (some .int) :: ((wsX5_check_r1 ++ (wsX5_check_r2 ++ wsX5_check_r3)) ++ wsX50)
def wsX5_compared : List Cond := .code yX5_compared cX5_compared 7 (some .int) :: ([.fieldLink RX5 149 "SignFormsModel" "written" "I", .fieldLink RX5 65 "SignFormsModel" "row" "[I", .methodLink RX5 169 yX5_laySign, .instanceMethod yX5_laySign, .selects RX5 yX5_laySign yX5_laySign, .initialized RX5, .code yX5_laySign cX5_laySign 7 none, .constant RX5 90 (55296), .constant RX5 101 (65536), .constant RX5 100 (56320), .methodLink RX5 152 yX5_lay, .instanceMethod yX5_lay, .selects RX5 yX5_lay yX5_lay, .code yX5_lay cX5_lay 2 none, .methodLink RX5 155 yX5_layUnit, .instanceMethod yX5_layUnit, .selects RX5 yX5_layUnit yX5_layUnit, .code yX5_layUnit cX5_layUnit 3 none, .methodLink RX5 159 yX5_layThree, .instanceMethod yX5_layThree, .selects RX5 yX5_layThree yX5_layThree, .code yX5_layThree cX5_layThree 2 none] ++ wsX50)
def wsX5_order_r1 : List Cond := [Cond.fieldLink RX5 7 "SignFormsModel" "isOpen" "[Z", Cond.fieldLink RX5 44 "SignFormsModel" "signs" "[I", Cond.fieldLink RX5 32 "SignFormsModel" "value" "[I", Cond.methodLink RX5 134 yX5_isStream, Cond.static yX5_isStream, Cond.initialized RX5, Cond.code yX5_isStream cX5_isStream 1 (some .boolean), Cond.methodLink RX5 172 yX5_compared, Cond.instanceMethod yX5_compared, Cond.selects RX5 yX5_compared yX5_compared, Cond.code yX5_compared cX5_compared 7 (some .int), Cond.fieldLink RX5 149 "SignFormsModel" "written" "I", Cond.fieldLink RX5 65 "SignFormsModel" "row" "[I", Cond.methodLink RX5 169 yX5_laySign, Cond.instanceMethod yX5_laySign, Cond.selects RX5 yX5_laySign yX5_laySign, Cond.code yX5_laySign cX5_laySign 7 none, Cond.constant RX5 90 (55296), Cond.constant RX5 101 (65536), Cond.constant RX5 100 (56320), Cond.methodLink RX5 152 yX5_lay, Cond.instanceMethod yX5_lay, Cond.selects RX5 yX5_lay yX5_lay, Cond.code yX5_lay cX5_lay 2 none]
def wsX5_order_r2 : List Cond := [Cond.methodLink RX5 155 yX5_layUnit, Cond.instanceMethod yX5_layUnit, Cond.selects RX5 yX5_layUnit yX5_layUnit, Cond.code yX5_layUnit cX5_layUnit 3 none, Cond.methodLink RX5 159 yX5_layThree, Cond.instanceMethod yX5_layThree, Cond.selects RX5 yX5_layThree yX5_layThree, Cond.code yX5_layThree cX5_layThree 2 none]
def wsX5_order : List Cond := .code yX5_order cX5_order 9 (some .int) :: ((wsX5_order_r1 ++ wsX5_order_r2) ++ wsX50)
def wsX5_among : List Cond := .code yX5_among cX5_among 7 (some .int) :: ([.fieldLink RX5 7 "SignFormsModel" "isOpen" "[Z", .fieldLink RX5 44 "SignFormsModel" "signs" "[I", .fieldLink RX5 32 "SignFormsModel" "value" "[I", .methodLink RX5 134 yX5_isStream, .static yX5_isStream, .initialized RX5, .code yX5_isStream cX5_isStream 1 (some .boolean)] ++ wsX50)
def wsJ9_min_7cf53 : List Cond := .code yJ9_min_7cf53 cJ9_min_7cf53 2 (some .int) :: ([])
def wsL_law_r1 : List Cond := [Cond.classLink RL 7 RX4, Cond.instantiable RX4 3, Cond.initialized RX4, Cond.classLink RL 10 RX5, Cond.instantiable RX5 23, Cond.initialized RX5, Cond.constantLong RL 18 (4294967295), Cond.methodLink RL 9 yX4_init, Cond.instanceMethod yX4_init, Cond.code yX4_init cX4_init 1 none, Cond.methodLink RX4 3 objectInit, Cond.instanceMethod objectInit, Cond.code objectInit ⟨#[0xb1]⟩ 1 none, Cond.classLink RX4 9 RX3, Cond.fieldLink RX4 11 "SignForms" "streams" "[LSignForms$Stream;", Cond.classLink RX4 15 RX1, Cond.instantiable RX1 2, Cond.initialized RX1, Cond.fieldLink RX4 18 "SignForms" "outRow" "LSignForms$OutRow;", Cond.classLink RX4 22 RX2, Cond.instantiable RX2 3, Cond.initialized RX2, Cond.fieldLink RX4 25 "SignForms" "part" "LSignForms$Part;", Cond.methodLink RX4 17 yX1_init]
def wsL_law_r2 : List Cond := [Cond.instanceMethod yX1_init, Cond.code yX1_init cX1_init 1 none, Cond.methodLink RX1 3 objectInit, Cond.arrayClass .int, Cond.fieldLink RX1 9 "SignForms$OutRow" "bytes" "[I", Cond.fieldLink RX1 15 "SignForms$OutRow" "count" "I", Cond.instanceMethod yX2_init, Cond.code yX2_init cX2_init 1 none, Cond.methodLink RX2 3 objectInit, Cond.methodLink RL 12 yX5_init, Cond.instanceMethod yX5_init, Cond.code yX5_init cX5_init 1 none, Cond.methodLink RX5 1 objectInit, Cond.arrayClass .boolean, Cond.fieldLink RX5 7 "SignFormsModel" "isOpen" "[Z", Cond.fieldLink RX5 13 "SignFormsModel" "isEnded" "[Z", Cond.fieldLink RX5 16 "SignFormsModel" "told" "[I", Cond.fieldLink RX5 20 "SignFormsModel" "form" "[I", Cond.fieldLink RX5 23 "SignFormsModel" "policy" "[I", Cond.fieldLink RX5 26 "SignFormsModel" "came" "[I", Cond.fieldLink RX5 29 "SignFormsModel" "many" "[I", Cond.fieldLink RX5 32 "SignFormsModel" "value" "[I", Cond.fieldLink RX5 35 "SignFormsModel" "place" "[I", Cond.fieldLink RX5 38 "SignFormsModel" "length" "[I"]
def wsL_law_r3 : List Cond := [Cond.fieldLink RX5 41 "SignFormsModel" "isMade" "[Z", Cond.fieldLink RX5 44 "SignFormsModel" "signs" "[I", Cond.fieldLink RX5 47 "SignFormsModel" "subparts" "[I", Cond.fieldLink RX5 50 "SignFormsModel" "open" "[I", Cond.fieldLink RX5 53 "SignFormsModel" "broken" "[I", Cond.fieldLink RX5 56 "SignFormsModel" "firstSubpart" "[I", Cond.fieldLink RX5 59 "SignFormsModel" "isMarked" "[Z", Cond.fieldLink RX5 62 "SignFormsModel" "out" "[I", Cond.fieldLink RX5 65 "SignFormsModel" "row" "[I", Cond.fieldLink RX5 68 "SignFormsModel" "outSize" "I", Cond.methodLink RL 13 yX4_open, Cond.instanceMethod yX4_open, Cond.selects RX4 yX4_open yX4_open, Cond.code yX4_open cX4_open 5 (some .boolean), Cond.instantiable RX3 16, Cond.initialized RX3, Cond.methodLink RX4 29 yX4_isStream, Cond.instanceMethod yX4_isStream, Cond.selects RX4 yX4_isStream yX4_isStream, Cond.code yX4_isStream cX4_isStream 2 (some .boolean), Cond.methodLink RX4 33 yX3_init, Cond.instanceMethod yX3_init, Cond.code yX3_init cX3_init 1 none, Cond.methodLink RX3 3 objectInit]
def wsL_law_r4 : List Cond := [Cond.fieldLink RX3 9 "SignForms$Stream" "bytes" "[I", Cond.fieldLink RX3 15 "SignForms$Stream" "signs" "[I", Cond.fieldLink RX3 18 "SignForms$Stream" "places" "[I", Cond.fieldLink RX3 21 "SignForms$Stream" "lengths" "[I", Cond.fieldLink RX3 24 "SignForms$Stream" "replaced" "[I", Cond.classLink RX3 27 RX2, Cond.fieldLink RX3 30 "SignForms$Stream" "part" "LSignForms$Part;", Cond.methodLink RX4 34 yX3_begin, Cond.instanceMethod yX3_begin, Cond.selects RX3 yX3_begin yX3_begin, Cond.code yX3_begin cX3_begin 3 none, Cond.fieldLink RX3 34 "SignForms$Stream" "form" "I", Cond.fieldLink RX3 38 "SignForms$Stream" "policy" "I", Cond.fieldLink RX3 41 "SignForms$Stream" "came" "I", Cond.fieldLink RX3 44 "SignForms$Stream" "decided" "I", Cond.fieldLink RX3 47 "SignForms$Stream" "signCount" "I", Cond.fieldLink RX3 50 "SignForms$Stream" "subparts" "I", Cond.fieldLink RX3 53 "SignForms$Stream" "firstSubpart" "I", Cond.fieldLink RX3 56 "SignForms$Stream" "brokenAt" "I", Cond.fieldLink RX3 59 "SignForms$Stream" "marked" "Z", Cond.fieldLink RX3 63 "SignForms$Stream" "ended" "Z", Cond.methodLink RL 17 yX5_open, Cond.instanceMethod yX5_open, Cond.selects RX5 yX5_open yX5_open]
def wsL_law_r5 : List Cond := [Cond.code yX5_open cX5_open 4 (some .boolean), Cond.methodLink RX5 134 yX5_isStream, Cond.static yX5_isStream, Cond.code yX5_isStream cX5_isStream 1 (some .boolean), Cond.methodLink RX5 138 yX5_findAll, Cond.instanceMethod yX5_findAll, Cond.selects RX5 yX5_findAll yX5_findAll, Cond.code yX5_findAll cX5_findAll 6 none, Cond.fieldLink RX5 86 "SignFormsModel" "partValue" "I", Cond.fieldLink RX5 72 "SignFormsModel" "partLength" "I", Cond.constant RX5 133 (65533), Cond.methodLink RX5 121 yX5_findForm, Cond.instanceMethod yX5_findForm, Cond.selects RX5 yX5_findForm yX5_findForm, Cond.code yX5_findForm cX5_findForm 5 (some .int), Cond.methodLink RX5 117 yX5_isBegun, Cond.instanceMethod yX5_isBegun, Cond.selects RX5 yX5_isBegun yX5_isBegun, Cond.code yX5_isBegun cX5_isBegun 10 (some .boolean), Cond.methodLink RX5 125 yX5_partAt, Cond.instanceMethod yX5_partAt, Cond.selects RX5 yX5_partAt yX5_partAt, Cond.code yX5_partAt cX5_partAt 9 (some .int), Cond.constant RX5 89 (1114111)]
def wsL_law_r6 : List Cond := [Cond.constant RX5 90 (55296), Cond.constant RX5 91 (57343), Cond.methodLink RX5 75 yX5_bytesAt, Cond.instanceMethod yX5_bytesAt, Cond.selects RX5 yX5_bytesAt yX5_bytesAt, Cond.code yX5_bytesAt cX5_bytesAt 7 (some .int), Cond.methodLink RX5 79 yX5_part, Cond.instanceMethod yX5_part, Cond.selects RX5 yX5_part yX5_part, Cond.code yX5_part cX5_part 3 (some .int), Cond.methodLink RX5 102 yX5_wanted, Cond.instanceMethod yX5_wanted, Cond.selects RX5 yX5_wanted yX5_wanted, Cond.code yX5_wanted cX5_wanted 5 (some .int), Cond.methodLink RX5 92 yX5_isBetween, Cond.static yX5_isBetween, Cond.code yX5_isBetween cX5_isBetween 3 (some .boolean), Cond.methodLink RX5 106 yX5_goesOn, Cond.instanceMethod yX5_goesOn, Cond.selects RX5 yX5_goesOn yX5_goesOn, Cond.code yX5_goesOn cX5_goesOn 6 (some .boolean), Cond.methodLink RX5 110 yX5_numberOf, Cond.instanceMethod yX5_numberOf, Cond.selects RX5 yX5_numberOf yX5_numberOf]
def wsL_law_r7 : List Cond := [Cond.code yX5_numberOf cX5_numberOf 5 (some .int), Cond.constant RX5 101 (65536), Cond.constant RX5 100 (56320), Cond.methodLink RX5 113 yX5_numberOf3, Cond.instanceMethod yX5_numberOf3, Cond.selects RX5 yX5_numberOf3 yX5_numberOf3, Cond.code yX5_numberOf3 cX5_numberOf3 2 (some .int), Cond.methodLink RX5 83 yX5_unitAt, Cond.instanceMethod yX5_unitAt, Cond.selects RX5 yX5_unitAt yX5_unitAt, Cond.code yX5_unitAt cX5_unitAt 3 (some .int), Cond.methodLink RX5 96 yX5_pairsAt, Cond.instanceMethod yX5_pairsAt, Cond.selects RX5 yX5_pairsAt yX5_pairsAt, Cond.code yX5_pairsAt cX5_pairsAt 7 (some .int), Cond.methodLink RX5 129 yX5_add, Cond.instanceMethod yX5_add, Cond.selects RX5 yX5_add yX5_add, Cond.code yX5_add cX5_add 7 none, Cond.methodLink RL 20 yX4_put, Cond.instanceMethod yX4_put, Cond.selects RX4 yX4_put yX4_put, Cond.code yX4_put cX4_put 7 (some .int), Cond.fieldLink RX4 38 "SignForms$Stream" "ended" "Z"]
def wsL_law_r8 : List Cond := [Cond.fieldLink RX4 52 "SignForms$Stream" "signCount" "I", Cond.methodLink RX4 42 yX3_hasRoomFor, Cond.instanceMethod yX3_hasRoomFor, Cond.selects RX3 yX3_hasRoomFor yX3_hasRoomFor, Cond.code yX3_hasRoomFor cX3_hasRoomFor 2 (some .boolean), Cond.methodLink RX4 45 yX3_take, Cond.instanceMethod yX3_take, Cond.selects RX3 yX3_take yX3_take, Cond.code yX3_take cX3_take 2 none, Cond.methodLink RX4 49 yX3_decide, Cond.instanceMethod yX3_decide, Cond.selects RX3 yX3_decide yX3_decide, Cond.code yX3_decide cX3_decide 1 none, Cond.methodLink RX3 66 yX3_findForm, Cond.instanceMethod yX3_findForm, Cond.selects RX3 yX3_findForm yX3_findForm, Cond.code yX3_findForm cX3_findForm 3 none, Cond.fieldLink RX3 72 "SignForms$Stream" "MARK_FORMS" "[I", Cond.fieldLink RX3 75 "SignForms$Stream" "MARK_LENGTHS" "[I", Cond.methodLink RX3 78 Lib.Math.min.name, Cond.static Lib.Math.min.name, Cond.initialized "java/lang/Math", Cond.code Lib.Math.min.name Lib.Math.min.code 2 (some .int), Cond.methodLink RX3 84 yX3_agrees]
def wsL_law_r9 : List Cond := [Cond.instanceMethod yX3_agrees, Cond.selects RX3 yX3_agrees yX3_agrees, Cond.code yX3_agrees cX3_agrees 4 (some .boolean), Cond.fieldLink RX3 88 "SignForms$Stream" "MARK_BYTES" "[I", Cond.methodLink RX3 69 yX3_tellParts, Cond.instanceMethod yX3_tellParts, Cond.selects RX3 yX3_tellParts yX3_tellParts, Cond.code yX3_tellParts cX3_tellParts 2 none, Cond.fieldLink RX3 95 "SignForms$Part" "length" "I", Cond.fieldLink RX3 98 "SignForms$Part" "isSign" "Z", Cond.fieldLink RX3 101 "SignForms$Part" "sign" "I", Cond.methodLink RX3 91 yX2_look, Cond.instanceMethod yX2_look, Cond.selects RX2 yX2_look yX2_look, Cond.code yX2_look cX2_look 6 none, Cond.fieldLink RX2 24 "SignForms$Part" "length" "I", Cond.methodLink RX2 9 yX2_tellNothing, Cond.instanceMethod yX2_tellNothing, Cond.selects RX2 yX2_tellNothing yX2_tellNothing, Cond.code yX2_tellNothing cX2_tellNothing 1 none, Cond.fieldLink RX2 36 "SignForms$Part" "isSign" "Z", Cond.fieldLink RX2 40 "SignForms$Part" "sign" "I", Cond.methodLink RX2 14 yX2_lookAtBytes, Cond.instanceMethod yX2_lookAtBytes]
def wsL_law_r10 : List Cond := [Cond.selects RX2 yX2_lookAtBytes yX2_lookAtBytes, Cond.code yX2_lookAtBytes cX2_lookAtBytes 12 none, Cond.methodLink RX2 48 yX2_neededBy, Cond.static yX2_neededBy, Cond.code yX2_neededBy cX2_neededBy 2 (some .int), Cond.methodLink RX2 32 yX2_tellSubpart, Cond.instanceMethod yX2_tellSubpart, Cond.selects RX2 yX2_tellSubpart yX2_tellSubpart, Cond.code yX2_tellSubpart cX2_tellSubpart 2 none, Cond.methodLink RX2 52 yX2_leastBehind, Cond.static yX2_leastBehind, Cond.code yX2_leastBehind cX2_leastBehind 1 (some .int), Cond.methodLink RX2 56 yX2_mostBehind, Cond.static yX2_mostBehind, Cond.code yX2_mostBehind cX2_mostBehind 2 (some .int), Cond.methodLink RX2 59 yX0_isFirst, Cond.static yX0_isFirst, Cond.initialized RX0, Cond.code yX0_isFirst cX0_isFirst 1 (some .boolean), Cond.constant RX0 9 (55296), Cond.constant RX0 10 (56319), Cond.methodLink RX2 65 yX2_lookAtSecondHalf, Cond.instanceMethod yX2_lookAtSecondHalf, Cond.selects RX2 yX2_lookAtSecondHalf yX2_lookAtSecondHalf]
def wsL_law_r11 : List Cond := [Cond.code yX2_lookAtSecondHalf cX2_lookAtSecondHalf 9 none, Cond.fieldLink RX2 73 "SignForms$Part" "SECOND_HALF_LEAST" "[I", Cond.fieldLink RX2 77 "SignForms$Part" "SECOND_HALF_MOST" "[I", Cond.constant RX2 80 (65535), Cond.methodLink RX2 81 yX0_joined, Cond.static yX0_joined, Cond.code yX0_joined cX0_joined 2 (some .int), Cond.constant RX0 13 (65536), Cond.constant RX0 11 (56320), Cond.methodLink RX2 69 yX2_tellSign, Cond.instanceMethod yX2_tellSign, Cond.selects RX2 yX2_tellSign yX2_tellSign, Cond.code yX2_tellSign cX2_tellSign 3 none, Cond.methodLink RX2 18 yX2_lookAtPairs, Cond.instanceMethod yX2_lookAtPairs, Cond.selects RX2 yX2_lookAtPairs yX2_lookAtPairs, Cond.code yX2_lookAtPairs cX2_lookAtPairs 7 none, Cond.methodLink RX2 84 yX2_unit, Cond.static yX2_unit, Cond.code yX2_unit cX2_unit 7 (some .int), Cond.methodLink RX2 88 yX0_isSecond, Cond.static yX0_isSecond, Cond.code yX0_isSecond cX0_isSecond 1 (some .boolean), Cond.constant RX0 12 (57343)]
def wsL_law_r12 : List Cond := [Cond.methodLink RX2 21 yX2_lookAtFour, Cond.instanceMethod yX2_lookAtFour, Cond.selects RX2 yX2_lookAtFour yX2_lookAtFour, Cond.code yX2_lookAtFour cX2_lookAtFour 7 none, Cond.constant RX2 91 (1114111), Cond.methodLink RX2 28 yX2_cutLength, Cond.static yX2_cutLength, Cond.code yX2_cutLength cX2_cutLength 3 (some .int), Cond.methodLink RX2 43 Lib.Math.min.name, Cond.methodLink RX3 104 yX3_addSign, Cond.instanceMethod yX3_addSign, Cond.selects RX3 yX3_addSign yX3_addSign, Cond.code yX3_addSign cX3_addSign 3 none, Cond.methodLink RX3 108 yX3_meetSubpart, Cond.instanceMethod yX3_meetSubpart, Cond.selects RX3 yX3_meetSubpart yX3_meetSubpart, Cond.code yX3_meetSubpart cX3_meetSubpart 1 none, Cond.constant RX3 111 (65533), Cond.methodLink RL 24 yX5_put, Cond.instanceMethod yX5_put, Cond.selects RX5 yX5_put yX5_put, Cond.code yX5_put cX5_put 6 (some .int), Cond.methodLink RX5 142 yX5_takes, Cond.instanceMethod yX5_takes]
def wsL_law_r13 : List Cond := [Cond.selects RX5 yX5_takes yX5_takes, Cond.code yX5_takes cX5_takes 2 (some .boolean), Cond.methodLink RL 25 yX4_pour, Cond.instanceMethod yX4_pour, Cond.selects RX4 yX4_pour yX4_pour, Cond.code yX4_pour cX4_pour 7 (some .int), Cond.fieldLink RX4 56 "SignForms$OutRow" "count" "I", Cond.methodLink RX4 59 Lib.Math.min.name, Cond.methodLink RX4 65 yX1_byteAt, Cond.instanceMethod yX1_byteAt, Cond.selects RX1 yX1_byteAt yX1_byteAt, Cond.code yX1_byteAt cX1_byteAt 2 (some .int), Cond.methodLink RL 29 yX5_pour, Cond.instanceMethod yX5_pour, Cond.selects RX5 yX5_pour yX5_pour, Cond.code yX5_pour cX5_pour 6 (some .int), Cond.methodLink RL 30 yX4_end, Cond.instanceMethod yX4_end, Cond.selects RX4 yX4_end yX4_end, Cond.code yX4_end cX4_end 3 (some .int), Cond.methodLink RL 34 yX5_end, Cond.instanceMethod yX5_end, Cond.selects RX5 yX5_end yX5_end, Cond.code yX5_end cX5_end 2 (some .int)]
def wsL_law_r14 : List Cond := [Cond.methodLink RL 35 yX4_about, Cond.instanceMethod yX4_about, Cond.selects RX4 yX4_about yX4_about, Cond.code yX4_about cX4_about 4 (some .int), Cond.methodLink RX4 69 yX3_fact, Cond.instanceMethod yX3_fact, Cond.selects RX3 yX3_fact yX3_fact, Cond.code yX3_fact cX3_fact 2 (some .int), Cond.methodLink RL 39 yX5_about, Cond.instanceMethod yX5_about, Cond.selects RX5 yX5_about yX5_about, Cond.code yX5_about cX5_about 3 (some .int), Cond.methodLink RL 40 yX4_sign, Cond.instanceMethod yX4_sign, Cond.selects RX4 yX4_sign yX4_sign, Cond.code yX4_sign cX4_sign 4 (some .int), Cond.fieldLink RX4 79 "SignForms$Stream" "signs" "[I", Cond.methodLink RX4 72 yX4_openStream, Cond.instanceMethod yX4_openStream, Cond.selects RX4 yX4_openStream yX4_openStream, Cond.code yX4_openStream cX4_openStream 2 (some (.object "SignForms$Stream")), Cond.methodLink RX4 76 yX3_hasSign, Cond.instanceMethod yX3_hasSign, Cond.selects RX3 yX3_hasSign yX3_hasSign]
def wsL_law_r15 : List Cond := [Cond.code yX3_hasSign cX3_hasSign 2 (some .boolean), Cond.methodLink RL 43 yX5_sign, Cond.instanceMethod yX5_sign, Cond.selects RX5 yX5_sign yX5_sign, Cond.code yX5_sign cX5_sign 3 (some .int), Cond.methodLink RX5 145 yX5_isSign, Cond.instanceMethod yX5_isSign, Cond.selects RX5 yX5_isSign yX5_isSign, Cond.code yX5_isSign cX5_isSign 3 (some .boolean), Cond.methodLink RL 44 yX4_placed, Cond.instanceMethod yX4_placed, Cond.selects RX4 yX4_placed yX4_placed, Cond.code yX4_placed cX4_placed 5 (some .int), Cond.fieldLink RX4 83 "SignForms$Stream" "places" "[I", Cond.fieldLink RX4 86 "SignForms$Stream" "lengths" "[I", Cond.fieldLink RX4 89 "SignForms$Stream" "replaced" "[I", Cond.methodLink RL 47 yX5_placed, Cond.instanceMethod yX5_placed, Cond.selects RX5 yX5_placed yX5_placed, Cond.code yX5_placed cX5_placed 5 (some .int), Cond.methodLink RL 48 yX4_at, Cond.instanceMethod yX4_at, Cond.selects RX4 yX4_at yX4_at, Cond.code yX4_at cX4_at 4 (some .int)]
def wsL_law_r16 : List Cond := [Cond.methodLink RX4 92 yX3_signOver, Cond.instanceMethod yX3_signOver, Cond.selects RX3 yX3_signOver yX3_signOver, Cond.code yX3_signOver cX3_signOver 3 (some .int), Cond.methodLink RL 51 yX5_at, Cond.instanceMethod yX5_at, Cond.selects RX5 yX5_at yX5_at, Cond.code yX5_at cX5_at 5 (some .int), Cond.methodLink RL 52 yX4_write, Cond.instanceMethod yX4_write, Cond.selects RX4 yX4_write yX4_write, Cond.code yX4_write cX4_write 7 (some .int), Cond.constant RX4 98 (65279), Cond.methodLink RX4 95 yX4_isWritable, Cond.static yX4_isWritable, Cond.code yX4_isWritable cX4_isWritable 1 (some .boolean), Cond.methodLink RX4 99 yX4_bytesIn, Cond.static yX4_bytesIn, Cond.code yX4_bytesIn cX4_bytesIn 2 (some .int), Cond.constant RX4 133 (65536), Cond.methodLink RX4 145 yX4_bytesBelowHalved, Cond.static yX4_bytesBelowHalved, Cond.code yX4_bytesBelowHalved cX4_bytesBelowHalved 1 (some .int), Cond.methodLink RX4 102 yX3_bytesInForm]
def wsL_law_r17 : List Cond := [Cond.instanceMethod yX3_bytesInForm, Cond.selects RX3 yX3_bytesInForm yX3_bytesInForm, Cond.code yX3_bytesInForm cX3_bytesInForm 6 (some .int), Cond.methodLink RX4 106 yX1_addSign, Cond.instanceMethod yX1_addSign, Cond.selects RX1 yX1_addSign yX1_addSign, Cond.code yX1_addSign cX1_addSign 4 none, Cond.constant RX1 19 (65536), Cond.methodLink RX1 20 yX0_firstOf, Cond.static yX0_firstOf, Cond.code yX0_firstOf cX0_firstOf 1 (some .int), Cond.methodLink RX1 26 yX1_addNumber, Cond.instanceMethod yX1_addNumber, Cond.selects RX1 yX1_addNumber yX1_addNumber, Cond.code yX1_addNumber cX1_addNumber 4 none, Cond.methodLink RX1 37 yX1_addBytes, Cond.instanceMethod yX1_addBytes, Cond.selects RX1 yX1_addBytes yX1_addBytes, Cond.code yX1_addBytes cX1_addBytes 4 none, Cond.methodLink RX1 46 yX1_add, Cond.instanceMethod yX1_add, Cond.selects RX1 yX1_add yX1_add, Cond.code yX1_add cX1_add 2 none, Cond.methodLink RX1 50 yX1_leadOf]
def wsL_law_r18 : List Cond := [Cond.static yX1_leadOf, Cond.code yX1_leadOf cX1_leadOf 1 (some .int), Cond.methodLink RX1 40 yX1_addLowFirst, Cond.instanceMethod yX1_addLowFirst, Cond.selects RX1 yX1_addLowFirst yX1_addLowFirst, Cond.code yX1_addLowFirst cX1_addLowFirst 4 none, Cond.methodLink RX1 43 yX1_addHighFirst, Cond.instanceMethod yX1_addHighFirst, Cond.selects RX1 yX1_addHighFirst yX1_addHighFirst, Cond.code yX1_addHighFirst cX1_addHighFirst 4 none, Cond.methodLink RX1 30 yX0_secondOf, Cond.static yX0_secondOf, Cond.code yX0_secondOf cX0_secondOf 1 (some .int), Cond.methodLink RL 56 yX5_write, Cond.instanceMethod yX5_write, Cond.selects RX5 yX5_write yX5_write, Cond.code yX5_write cX5_write 6 (some .int), Cond.constant RX5 165 (65279), Cond.fieldLink RX5 149 "SignFormsModel" "written" "I", Cond.methodLink RX5 162 yX5_isForm, Cond.static yX5_isForm, Cond.code yX5_isForm cX5_isForm 1 (some .boolean), Cond.methodLink RX5 166 yX5_sizeOf, Cond.static yX5_sizeOf]
def wsL_law_r19 : List Cond := [Cond.code yX5_sizeOf cX5_sizeOf 3 (some .int), Cond.methodLink RX5 169 yX5_laySign, Cond.instanceMethod yX5_laySign, Cond.selects RX5 yX5_laySign yX5_laySign, Cond.code yX5_laySign cX5_laySign 7 none, Cond.methodLink RX5 152 yX5_lay, Cond.instanceMethod yX5_lay, Cond.selects RX5 yX5_lay yX5_lay, Cond.code yX5_lay cX5_lay 2 none, Cond.methodLink RX5 155 yX5_layUnit, Cond.instanceMethod yX5_layUnit, Cond.selects RX5 yX5_layUnit yX5_layUnit, Cond.code yX5_layUnit cX5_layUnit 3 none, Cond.methodLink RX5 159 yX5_layThree, Cond.instanceMethod yX5_layThree, Cond.selects RX5 yX5_layThree yX5_layThree, Cond.code yX5_layThree cX5_layThree 2 none, Cond.methodLink RL 57 yX4_size, Cond.instanceMethod yX4_size, Cond.selects RX4 yX4_size yX4_size, Cond.code yX4_size cX4_size 6 (some .int), Cond.methodLink RL 61 yX5_size, Cond.instanceMethod yX5_size, Cond.selects RX5 yX5_size yX5_size]
def wsL_law_r20 : List Cond := [Cond.code yX5_size cX5_size 7 (some .int), Cond.methodLink RL 62 yX4_out, Cond.instanceMethod yX4_out, Cond.selects RX4 yX4_out yX4_out, Cond.code yX4_out cX4_out 2 (some .int), Cond.methodLink RL 65 yX5_out, Cond.instanceMethod yX5_out, Cond.selects RX5 yX5_out yX5_out, Cond.code yX5_out cX5_out 2 (some .int), Cond.methodLink RL 66 yX4_check, Cond.instanceMethod yX4_check, Cond.selects RX4 yX4_check yX4_check, Cond.code yX4_check cX4_check 4 (some .int), Cond.fieldLink RX4 109 "SignForms$OutRow" "bytes" "[I", Cond.fieldLink RX4 116 "SignForms$Part" "isSign" "Z", Cond.fieldLink RX4 119 "SignForms$Part" "length" "I", Cond.methodLink RX4 112 yX2_look, Cond.methodLink RL 69 yX5_check, Cond.instanceMethod yX5_check, Cond.selects RX5 yX5_check yX5_check, Cond.code yX5_check cX5_check 3 (some .int), Cond.methodLink RL 70 yX4_order, Cond.instanceMethod yX4_order, Cond.selects RX4 yX4_order yX4_order]
def wsL_law_r21 : List Cond := [Cond.code yX4_order cX4_order 8 (some .int), Cond.methodLink RX4 122 yX4_rank, Cond.static yX4_rank, Cond.code yX4_rank cX4_rank 5 (some .long), Cond.methodLink RX4 134 yX0_firstOf, Cond.methodLink RX4 139 yX0_secondOf, Cond.methodLink RX4 142 yX4_turned, Cond.static yX4_turned, Cond.code yX4_turned cX4_turned 1 (some .int), Cond.methodLink RX4 126 yX4_side, Cond.static yX4_side, Cond.code yX4_side cX4_side 4 (some .int), Cond.methodLink RL 73 yX5_order, Cond.instanceMethod yX5_order, Cond.selects RX5 yX5_order yX5_order, Cond.code yX5_order cX5_order 9 (some .int), Cond.methodLink RX5 172 yX5_compared, Cond.instanceMethod yX5_compared, Cond.selects RX5 yX5_compared yX5_compared, Cond.code yX5_compared cX5_compared 7 (some .int), Cond.methodLink RL 74 yX4_among, Cond.instanceMethod yX4_among, Cond.selects RX4 yX4_among yX4_among, Cond.code yX4_among cX4_among 5 (some .int)]
def wsL_law_r22 : List Cond := [Cond.methodLink RX4 130 yX3_countAmong, Cond.instanceMethod yX3_countAmong, Cond.selects RX3 yX3_countAmong yX3_countAmong, Cond.code yX3_countAmong cX3_countAmong 5 (some .int), Cond.methodLink RL 77 yX5_among, Cond.instanceMethod yX5_among, Cond.selects RX5 yX5_among yX5_among, Cond.code yX5_among cX5_among 7 (some .int)]
def wsL_law : List Cond := (wsL_law_r1 ++ (wsL_law_r2 ++ (wsL_law_r3 ++ (wsL_law_r4 ++ (wsL_law_r5 ++ (wsL_law_r6 ++ (wsL_law_r7 ++ (wsL_law_r8 ++ (wsL_law_r9 ++ (wsL_law_r10 ++ (wsL_law_r11 ++ (wsL_law_r12 ++ (wsL_law_r13 ++ (wsL_law_r14 ++ (wsL_law_r15 ++ (wsL_law_r16 ++ (wsL_law_r17 ++ (wsL_law_r18 ++ (wsL_law_r19 ++ (wsL_law_r20 ++ (wsL_law_r21 ++ wsL_law_r22))))))))))))))))))))) ++ wsX40 ++ wsX50 ++ wsX10 ++ wsX20 ++ wsX30 ++ ([] : List Cond)
abbrev vwCl : List vw_C := [(RX1, TX1, 2), (RX2, TX2, 3), (RX3, TX3, 16), (RX4, TX4, 3), (RX5, TX5, 23)]
end
section
set_option maxRecDepth 20000 in
theorem lq_wsL_law_r1 : ∀ w ∈ wsL_law_r1, w ∈ lw_tbl := fun w h => (goodIn_r wsL_law_r1 [47, 48, 40, 428, 429, 43, 660, 49, 50, 51, 52, 53, 54, 55, 94, 57, 58, 41, 95, 73, 74, 42, 96, 59] (by decide +kernel) (by decide +kernel) w h).1
set_option maxRecDepth 20000 in
theorem lq_wsL_law_r2 : ∀ w ∈ wsL_law_r2, w ∈ lw_tbl := fun w h => (goodIn_r wsL_law_r2 [60, 61, 62, 72, 63, 65, 76, 77, 78, 430, 431, 432, 433, 504, 434, 435, 436, 437, 438, 439, 440, 441, 442, 443] (by decide +kernel) (by decide +kernel) w h).1
set_option maxRecDepth 20000 in
theorem lq_wsL_law_r3 : ∀ w ∈ wsL_law_r3, w ∈ lw_tbl := fun w h => (goodIn_r wsL_law_r3 [444, 445, 446, 447, 448, 449, 450, 451, 453, 452, 104, 105, 106, 107, 112, 44, 108, 110, 0, 111, 113, 114, 115, 116] (by decide +kernel) (by decide +kernel) w h).1
set_option maxRecDepth 20000 in
theorem lq_wsL_law_r4 : ∀ w ∈ wsL_law_r4, w ∈ lw_tbl := fun w h => (goodIn_r wsL_law_r4 [119, 120, 122, 124, 126, 117, 128, 174, 175, 176, 177, 129, 130, 131, 132, 133, 135, 136, 137, 138, 139, 505, 506, 507] (by decide +kernel) (by decide +kernel) w h).1
set_option maxRecDepth 20000 in
theorem lq_wsL_law_r5 : ∀ w ∈ wsL_law_r5, w ∈ lw_tbl := fun w h => (goodIn_r wsL_law_r5 [508, 509, 510, 511, 512, 514, 19, 515, 455, 454, 572, 516, 518, 20, 519, 520, 522, 21, 523, 524, 526, 22, 527, 562] (by decide +kernel) (by decide +kernel) w h).1
set_option maxRecDepth 20000 in
theorem lq_wsL_law_r6 : ∀ w ∈ wsL_law_r6, w ∈ lw_tbl := fun w h => (goodIn_r wsL_law_r6 [556, 563, 528, 530, 23, 531, 532, 534, 24, 535, 536, 538, 25, 539, 540, 541, 542, 543, 545, 26, 546, 547, 549, 27] (by decide +kernel) (by decide +kernel) w h).1
set_option maxRecDepth 20000 in
theorem lq_wsL_law_r7 : ∀ w ∈ wsL_law_r7, w ∈ lw_tbl := fun w h => (goodIn_r wsL_law_r7 [550, 555, 557, 551, 553, 28, 554, 558, 560, 29, 561, 564, 566, 30, 567, 568, 570, 31, 571, 178, 179, 180, 181, 140] (by decide +kernel) (by decide +kernel) w h).1
set_option maxRecDepth 20000 in
theorem lq_wsL_law_r8 : ∀ w ∈ wsL_law_r8, w ∈ lw_tbl := fun w h => (goodIn_r wsL_law_r8 [134, 182, 183, 184, 185, 186, 187, 188, 189, 190, 191, 192, 193, 194, 196, 1, 197, 198, 200, 202, 203, 45, 204, 205] (by decide +kernel) (by decide +kernel) w h).1
set_option maxRecDepth 20000 in
theorem lq_wsL_law_r9 : ∀ w ∈ wsL_law_r9, w ∈ lw_tbl := fun w h => (goodIn_r wsL_law_r9 [207, 2, 208, 209, 211, 213, 3, 214, 85, 80, 83, 215, 216, 217, 218, 84, 219, 221, 4, 222, 79, 82, 223, 225] (by decide +kernel) (by decide +kernel) w h).1
set_option maxRecDepth 20000 in
theorem lq_wsL_law_r10 : ∀ w ∈ wsL_law_r10, w ∈ lw_tbl := fun w h => (goodIn_r wsL_law_r10 [5, 226, 227, 228, 229, 230, 232, 6, 233, 234, 235, 236, 237, 238, 239, 240, 241, 46, 242, 243, 244, 245, 247, 7] (by decide +kernel) (by decide +kernel) w h).1
set_option maxRecDepth 20000 in
theorem lq_wsL_law_r11 : ∀ w ∈ wsL_law_r11, w ∈ lw_tbl := fun w h => (goodIn_r wsL_law_r11 [248, 249, 251, 253, 254, 255, 256, 257, 258, 259, 261, 8, 262, 263, 265, 9, 266, 267, 268, 269, 270, 271, 272, 273] (by decide +kernel) (by decide +kernel) w h).1
set_option maxRecDepth 20000 in
theorem lq_wsL_law_r12 : ∀ w ∈ wsL_law_r12, w ∈ lw_tbl := fun w h => (goodIn_r wsL_law_r12 [274, 276, 10, 277, 278, 279, 280, 281, 282, 283, 285, 11, 286, 287, 289, 12, 290, 291, 573, 574, 575, 576, 577, 579] (by decide +kernel) (by decide +kernel) w h).1
set_option maxRecDepth 20000 in
theorem lq_wsL_law_r13 : ∀ w ∈ wsL_law_r13, w ∈ lw_tbl := fun w h => (goodIn_r wsL_law_r13 [32, 580, 292, 293, 294, 295, 66, 296, 297, 298, 299, 300, 581, 582, 583, 584, 301, 302, 303, 304, 585, 586, 587, 588] (by decide +kernel) (by decide +kernel) w h).1
set_option maxRecDepth 20000 in
theorem lq_wsL_law_r14 : ∀ w ∈ wsL_law_r14, w ∈ lw_tbl := fun w h => (goodIn_r wsL_law_r14 [305, 306, 307, 308, 309, 310, 311, 312, 589, 590, 591, 592, 313, 314, 315, 316, 121, 317, 319, 13, 320, 321, 322, 323] (by decide +kernel) (by decide +kernel) w h).1
set_option maxRecDepth 20000 in
theorem lq_wsL_law_r15 : ∀ w ∈ wsL_law_r15, w ∈ lw_tbl := fun w h => (goodIn_r wsL_law_r15 [324, 593, 594, 595, 596, 597, 599, 33, 600, 325, 326, 327, 328, 123, 125, 127, 601, 602, 603, 604, 329, 330, 331, 332] (by decide +kernel) (by decide +kernel) w h).1
set_option maxRecDepth 20000 in
theorem lq_wsL_law_r16 : ∀ w ∈ wsL_law_r16, w ∈ lw_tbl := fun w h => (goodIn_r wsL_law_r16 [333, 334, 335, 336, 605, 606, 607, 608, 337, 338, 339, 340, 344, 341, 342, 343, 345, 346, 347, 348, 349, 350, 351, 352] (by decide +kernel) (by decide +kernel) w h).1
set_option maxRecDepth 20000 in
theorem lq_wsL_law_r17 : ∀ w ∈ wsL_law_r17, w ∈ lw_tbl := fun w h => (goodIn_r wsL_law_r17 [353, 354, 355, 357, 358, 359, 360, 361, 362, 363, 364, 365, 367, 14, 368, 370, 372, 15, 373, 374, 376, 16, 377, 378] (by decide +kernel) (by decide +kernel) w h).1
set_option maxRecDepth 20000 in
theorem lq_wsL_law_r18 : ∀ w ∈ wsL_law_r18, w ∈ lw_tbl := fun w h => (goodIn_r wsL_law_r18 [379, 380, 381, 383, 17, 384, 385, 387, 18, 388, 389, 390, 391, 609, 610, 611, 612, 616, 456, 613, 614, 615, 617, 618] (by decide +kernel) (by decide +kernel) w h).1
set_option maxRecDepth 20000 in
theorem lq_wsL_law_r19 : ∀ w ∈ wsL_law_r19, w ∈ lw_tbl := fun w h => (goodIn_r wsL_law_r19 [619, 620, 622, 34, 623, 624, 626, 35, 627, 628, 630, 36, 631, 632, 634, 37, 635, 392, 393, 394, 395, 636, 637, 638] (by decide +kernel) (by decide +kernel) w h).1
set_option maxRecDepth 20000 in
theorem lq_wsL_law_r20 : ∀ w ∈ wsL_law_r20, w ∈ lw_tbl := fun w h => (goodIn_r wsL_law_r20 [639, 396, 397, 398, 399, 640, 641, 642, 643, 400, 401, 402, 403, 64, 81, 86, 404, 644, 645, 646, 647, 405, 406, 407] (by decide +kernel) (by decide +kernel) w h).1
set_option maxRecDepth 20000 in
theorem lq_wsL_law_r21 : ∀ w ∈ wsL_law_r21, w ∈ lw_tbl := fun w h => (goodIn_r wsL_law_r21 [408, 409, 410, 411, 412, 413, 414, 415, 416, 417, 418, 419, 648, 649, 650, 651, 652, 654, 38, 655, 420, 421, 422, 423] (by decide +kernel) (by decide +kernel) w h).1
set_option maxRecDepth 20000 in
theorem lq_wsL_law_r22 : ∀ w ∈ wsL_law_r22, w ∈ lw_tbl := fun w h => (goodIn_r wsL_law_r22 [424, 425, 426, 427, 656, 657, 658, 659] (by decide +kernel) (by decide +kernel) w h).1
set_option maxRecDepth 20000 in
theorem lq_wsX10 : ∀ w ∈ wsX10, w ∈ lw_tbl := fun w h => (goodIn_r wsX10 [67, 69] (by decide +kernel) (by decide +kernel) w h).1
set_option maxRecDepth 20000 in
theorem lq_wsX20 : ∀ w ∈ wsX20, w ∈ lw_tbl := fun w h => (goodIn_r wsX20 [87, 89, 91] (by decide +kernel) (by decide +kernel) w h).1
set_option maxRecDepth 20000 in
theorem lq_wsX30 : ∀ w ∈ wsX30, w ∈ lw_tbl := fun w h => (goodIn_r wsX30 [141, 143, 145, 147, 149, 151, 153, 155, 157, 159, 161, 163, 165, 167, 169, 171] (by decide +kernel) (by decide +kernel) w h).1
set_option maxRecDepth 20000 in
theorem lq_wsX40 : ∀ w ∈ wsX40, w ∈ lw_tbl := fun w h => (goodIn_r wsX40 [97, 99, 101] (by decide +kernel) (by decide +kernel) w h).1
set_option maxRecDepth 20000 in
theorem lq_wsX50 : ∀ w ∈ wsX50, w ∈ lw_tbl := fun w h => (goodIn_r wsX50 [457, 459, 461, 463, 465, 467, 469, 471, 473, 475, 477, 479, 481, 483, 485, 487, 489, 491, 493, 495, 497, 499, 501] (by decide +kernel) (by decide +kernel) w h).1
theorem wsL_law_in : ∀ w ∈ wsL_law, w ∈ lw_tbl := (fun w h => (List.mem_append.mp h).elim ((fun w h => (List.mem_append.mp h).elim ((fun w h => (List.mem_append.mp h).elim ((fun w h => (List.mem_append.mp h).elim ((fun w h => (List.mem_append.mp h).elim ((fun w h => (List.mem_append.mp h).elim ((fun w h => (List.mem_append.mp h).elim (lq_wsL_law_r1 w) ((fun w h => (List.mem_append.mp h).elim (lq_wsL_law_r2 w) ((fun w h => (List.mem_append.mp h).elim (lq_wsL_law_r3 w) ((fun w h => (List.mem_append.mp h).elim (lq_wsL_law_r4 w) ((fun w h => (List.mem_append.mp h).elim (lq_wsL_law_r5 w) ((fun w h => (List.mem_append.mp h).elim (lq_wsL_law_r6 w) ((fun w h => (List.mem_append.mp h).elim (lq_wsL_law_r7 w) ((fun w h => (List.mem_append.mp h).elim (lq_wsL_law_r8 w) ((fun w h => (List.mem_append.mp h).elim (lq_wsL_law_r9 w) ((fun w h => (List.mem_append.mp h).elim (lq_wsL_law_r10 w) ((fun w h => (List.mem_append.mp h).elim (lq_wsL_law_r11 w) ((fun w h => (List.mem_append.mp h).elim (lq_wsL_law_r12 w) ((fun w h => (List.mem_append.mp h).elim (lq_wsL_law_r13 w) ((fun w h => (List.mem_append.mp h).elim (lq_wsL_law_r14 w) ((fun w h => (List.mem_append.mp h).elim (lq_wsL_law_r15 w) ((fun w h => (List.mem_append.mp h).elim (lq_wsL_law_r16 w) ((fun w h => (List.mem_append.mp h).elim (lq_wsL_law_r17 w) ((fun w h => (List.mem_append.mp h).elim (lq_wsL_law_r18 w) ((fun w h => (List.mem_append.mp h).elim (lq_wsL_law_r19 w) ((fun w h => (List.mem_append.mp h).elim (lq_wsL_law_r20 w) ((fun w h => (List.mem_append.mp h).elim (lq_wsL_law_r21 w) (lq_wsL_law_r22 w)) w)) w)) w)) w)) w)) w)) w)) w)) w)) w)) w)) w)) w)) w)) w)) w)) w)) w)) w)) w)) w) (lq_wsX40 w)) w) (lq_wsX50 w)) w) (lq_wsX10 w)) w) (lq_wsX20 w)) w) (lq_wsX30 w)) w) ((fun _ h => absurd h List.not_mem_nil : ∀ w ∈ ([] : List Cond), w ∈ lw_tbl) w))
theorem inlX1 : ∀ w ∈ wsX10, w ∈ wsL_law := fun _ h => List.mem_append_left _ (List.mem_append_left _ (List.mem_append_left _ (List.mem_append_right _ h)))
theorem inX1 : ∀ w ∈ wsX10, w ∈ lw_tbl := fun w h => wsL_law_in w (inlX1 w h)
theorem inlX2 : ∀ w ∈ wsX20, w ∈ wsL_law := fun _ h => List.mem_append_left _ (List.mem_append_left _ (List.mem_append_right _ h))
theorem inX2 : ∀ w ∈ wsX20, w ∈ lw_tbl := fun w h => wsL_law_in w (inlX2 w h)
theorem inlX3 : ∀ w ∈ wsX30, w ∈ wsL_law := fun _ h => List.mem_append_left _ (List.mem_append_right _ h)
theorem inX3 : ∀ w ∈ wsX30, w ∈ lw_tbl := fun w h => wsL_law_in w (inlX3 w h)
theorem inlX4 : ∀ w ∈ wsX40, w ∈ wsL_law := fun _ h => List.mem_append_left _ (List.mem_append_left _ (List.mem_append_left _ (List.mem_append_left _ (List.mem_append_left _ (List.mem_append_right _ h)))))
theorem inX4 : ∀ w ∈ wsX40, w ∈ lw_tbl := fun w h => wsL_law_in w (inlX4 w h)
theorem inlX5 : ∀ w ∈ wsX50, w ∈ wsL_law := fun _ h => List.mem_append_left _ (List.mem_append_left _ (List.mem_append_left _ (List.mem_append_left _ (List.mem_append_right _ h))))
theorem inX5 : ∀ w ∈ wsX50, w ∈ lw_tbl := fun w h => wsL_law_in w (inlX5 w h)
end
section
theorem dX1_byteAt_0 : decode cX1_byteAt 0 = .ok (.iload_n 1, 1) := by decide +kernel
theorem dX1_byteAt_1 : decode cX1_byteAt 1 = .ok (.ifCond .lt 20, 3) := by decide +kernel
theorem dX1_byteAt_4 : decode cX1_byteAt 4 = .ok (.iload_n 1, 1) := by decide +kernel
theorem dX1_byteAt_5 : decode cX1_byteAt 5 = .ok (.aload_n 0, 1) := by decide +kernel
theorem dX1_byteAt_6 : decode cX1_byteAt 6 = .ok (.getfield 15, 3) := by decide +kernel
theorem dX1_byteAt_9 : decode cX1_byteAt 9 = .ok (.if_icmp .ge 12, 3) := by decide +kernel
theorem dX1_byteAt_21 : decode cX1_byteAt 21 = .ok (.iconst (-1), 1) := by decide +kernel
theorem dX1_byteAt_22 : decode cX1_byteAt 22 = .ok (.ireturn, 1) := by decide +kernel
set_option maxRecDepth 20000 in
theorem ggX4_put_X4_isStream : GoodIn wsX4_put wsX4_isStream := goodIn_r _ [8, 1, 140, 141, 142] (by decide +kernel) (by decide +kernel)
set_option maxRecDepth 20000 in
theorem gX4_put_X4_isStream : GoodIn wsX4_put (wsV RX4 29 RX4 yX4_isStream wsX4_isStream) := goodIn_app (goodIn_of _ (by decide +kernel)) ggX4_put_X4_isStream
theorem dX4_put_0 : decode cX4_put 0 = .ok (.aload_n 0, 1) := by decide +kernel
theorem dX4_put_1 : decode cX4_put 1 = .ok (.iload_n 1, 1) := by decide +kernel
theorem dX4_put_2 : decode cX4_put 2 = .ok (.invokevirtual 29, 3) := by decide +kernel
theorem dX4_put_5 : decode cX4_put 5 = .ok (.ifCond .eq 16, 3) := by decide +kernel
theorem dX4_put_8 : decode cX4_put 8 = .ok (.iload 4, 2) := by decide +kernel
theorem dX4_put_10 : decode cX4_put 10 = .ok (.iconst 1, 1) := by decide +kernel
theorem dX4_put_11 : decode cX4_put 11 = .ok (.if_icmp .lt 10, 3) := by decide +kernel
theorem dX4_put_14 : decode cX4_put 14 = .ok (.iload 4, 2) := by decide +kernel
theorem dX4_put_16 : decode cX4_put 16 = .ok (.bipush 8, 2) := by decide +kernel
theorem dX4_put_18 : decode cX4_put 18 = .ok (.if_icmp .le 5, 3) := by decide +kernel
theorem dX4_put_21 : decode cX4_put 21 = .ok (.iconst (-1), 1) := by decide +kernel
theorem dX4_put_22 : decode cX4_put 22 = .ok (.ireturn, 1) := by decide +kernel
theorem dX4_put_23 : decode cX4_put 23 = .ok (.aload_n 0, 1) := by decide +kernel
theorem dX4_put_24 : decode cX4_put 24 = .ok (.getfield 11, 3) := by decide +kernel
theorem dX4_put_27 : decode cX4_put 27 = .ok (.iload_n 1, 1) := by decide +kernel
theorem dX4_put_28 : decode cX4_put 28 = .ok (.aaload, 1) := by decide +kernel
theorem dX4_put_29 : decode cX4_put 29 = .ok (.astore 5, 2) := by decide +kernel
theorem dX4_put_31 : decode cX4_put 31 = .ok (.aload 5, 2) := by decide +kernel
theorem dX4_put_33 : decode cX4_put 33 = .ok (.ifnull 11, 3) := by decide +kernel
theorem dX4_put_44 : decode cX4_put 44 = .ok (.bipush (-2), 2) := by decide +kernel
theorem dX4_put_46 : decode cX4_put 46 = .ok (.ireturn, 1) := by decide +kernel
set_option maxRecDepth 20000 in
theorem ggX4_pour_X4_isStream : GoodIn wsX4_pour wsX4_isStream := goodIn_r _ [13, 3, 149, 150, 151] (by decide +kernel) (by decide +kernel)
set_option maxRecDepth 20000 in
theorem gX4_pour_X4_isStream : GoodIn wsX4_pour (wsV RX4 29 RX4 yX4_isStream wsX4_isStream) := goodIn_app (goodIn_of _ (by decide +kernel)) ggX4_pour_X4_isStream
theorem dX4_pour_0 : decode cX4_pour 0 = .ok (.aload_n 0, 1) := by decide +kernel
theorem dX4_pour_1 : decode cX4_pour 1 = .ok (.iload_n 1, 1) := by decide +kernel
theorem dX4_pour_2 : decode cX4_pour 2 = .ok (.invokevirtual 29, 3) := by decide +kernel
theorem dX4_pour_5 : decode cX4_pour 5 = .ok (.ifCond .eq 22, 3) := by decide +kernel
theorem dX4_pour_8 : decode cX4_pour 8 = .ok (.iload_n 2, 1) := by decide +kernel
theorem dX4_pour_9 : decode cX4_pour 9 = .ok (.ifCond .lt 18, 3) := by decide +kernel
theorem dX4_pour_12 : decode cX4_pour 12 = .ok (.iload_n 2, 1) := by decide +kernel
theorem dX4_pour_13 : decode cX4_pour 13 = .ok (.aload_n 0, 1) := by decide +kernel
theorem dX4_pour_14 : decode cX4_pour 14 = .ok (.getfield 18, 3) := by decide +kernel
theorem dX4_pour_17 : decode cX4_pour 17 = .ok (.getfield 56, 3) := by decide +kernel
theorem dX4_pour_20 : decode cX4_pour 20 = .ok (.if_icmp .gt 7, 3) := by decide +kernel
theorem dX4_pour_23 : decode cX4_pour 23 = .ok (.iload_n 3, 1) := by decide +kernel
theorem dX4_pour_24 : decode cX4_pour 24 = .ok (.ifCond .ge 5, 3) := by decide +kernel
theorem dX4_pour_27 : decode cX4_pour 27 = .ok (.iconst (-1), 1) := by decide +kernel
theorem dX4_pour_28 : decode cX4_pour 28 = .ok (.ireturn, 1) := by decide +kernel
theorem dX4_pour_29 : decode cX4_pour 29 = .ok (.aload_n 0, 1) := by decide +kernel
theorem dX4_pour_30 : decode cX4_pour 30 = .ok (.getfield 11, 3) := by decide +kernel
theorem dX4_pour_33 : decode cX4_pour 33 = .ok (.iload_n 1, 1) := by decide +kernel
theorem dX4_pour_34 : decode cX4_pour 34 = .ok (.aaload, 1) := by decide +kernel
theorem dX4_pour_35 : decode cX4_pour 35 = .ok (.astore 4, 2) := by decide +kernel
theorem dX4_pour_37 : decode cX4_pour 37 = .ok (.aload 4, 2) := by decide +kernel
theorem dX4_pour_39 : decode cX4_pour 39 = .ok (.ifnull 11, 3) := by decide +kernel
theorem dX4_pour_50 : decode cX4_pour 50 = .ok (.bipush (-2), 2) := by decide +kernel
theorem dX4_pour_52 : decode cX4_pour 52 = .ok (.ireturn, 1) := by decide +kernel
set_option maxRecDepth 20000 in
theorem ggX4_end_X4_isStream : GoodIn wsX4_end wsX4_isStream := goodIn_r _ [8, 1, 132, 133, 134] (by decide +kernel) (by decide +kernel)
set_option maxRecDepth 20000 in
theorem gX4_end_X4_isStream : GoodIn wsX4_end (wsV RX4 29 RX4 yX4_isStream wsX4_isStream) := goodIn_app (goodIn_of _ (by decide +kernel)) ggX4_end_X4_isStream
theorem dX4_end_0 : decode cX4_end 0 = .ok (.aload_n 0, 1) := by decide +kernel
theorem dX4_end_1 : decode cX4_end 1 = .ok (.iload_n 1, 1) := by decide +kernel
theorem dX4_end_2 : decode cX4_end 2 = .ok (.invokevirtual 29, 3) := by decide +kernel
theorem dX4_end_5 : decode cX4_end 5 = .ok (.ifCond .ne 5, 3) := by decide +kernel
theorem dX4_end_8 : decode cX4_end 8 = .ok (.iconst (-1), 1) := by decide +kernel
theorem dX4_end_9 : decode cX4_end 9 = .ok (.ireturn, 1) := by decide +kernel
theorem dX4_end_10 : decode cX4_end 10 = .ok (.aload_n 0, 1) := by decide +kernel
theorem dX4_end_11 : decode cX4_end 11 = .ok (.getfield 11, 3) := by decide +kernel
theorem dX4_end_14 : decode cX4_end 14 = .ok (.iload_n 1, 1) := by decide +kernel
theorem dX4_end_15 : decode cX4_end 15 = .ok (.aaload, 1) := by decide +kernel
theorem dX4_end_16 : decode cX4_end 16 = .ok (.astore_n 2, 1) := by decide +kernel
theorem dX4_end_17 : decode cX4_end 17 = .ok (.aload_n 2, 1) := by decide +kernel
theorem dX4_end_18 : decode cX4_end 18 = .ok (.ifnull 10, 3) := by decide +kernel
theorem dX4_end_28 : decode cX4_end 28 = .ok (.bipush (-2), 2) := by decide +kernel
theorem dX4_end_30 : decode cX4_end 30 = .ok (.ireturn, 1) := by decide +kernel
set_option maxRecDepth 20000 in
theorem ggX4_about_X4_isStream : GoodIn wsX4_about wsX4_isStream := goodIn_r _ [6, 1, 21, 22, 23] (by decide +kernel) (by decide +kernel)
set_option maxRecDepth 20000 in
theorem gX4_about_X4_isStream : GoodIn wsX4_about (wsV RX4 29 RX4 yX4_isStream wsX4_isStream) := goodIn_app (goodIn_of _ (by decide +kernel)) ggX4_about_X4_isStream
theorem dX4_about_0 : decode cX4_about 0 = .ok (.aload_n 0, 1) := by decide +kernel
theorem dX4_about_1 : decode cX4_about 1 = .ok (.iload_n 1, 1) := by decide +kernel
theorem dX4_about_2 : decode cX4_about 2 = .ok (.invokevirtual 29, 3) := by decide +kernel
theorem dX4_about_5 : decode cX4_about 5 = .ok (.ifCond .eq 13, 3) := by decide +kernel
theorem dX4_about_8 : decode cX4_about 8 = .ok (.iload_n 2, 1) := by decide +kernel
theorem dX4_about_9 : decode cX4_about 9 = .ok (.ifCond .lt 9, 3) := by decide +kernel
theorem dX4_about_12 : decode cX4_about 12 = .ok (.iload_n 2, 1) := by decide +kernel
theorem dX4_about_13 : decode cX4_about 13 = .ok (.bipush 8, 2) := by decide +kernel
theorem dX4_about_15 : decode cX4_about 15 = .ok (.if_icmp .le 5, 3) := by decide +kernel
theorem dX4_about_18 : decode cX4_about 18 = .ok (.iconst (-1), 1) := by decide +kernel
theorem dX4_about_19 : decode cX4_about 19 = .ok (.ireturn, 1) := by decide +kernel
theorem dX4_about_20 : decode cX4_about 20 = .ok (.aload_n 0, 1) := by decide +kernel
theorem dX4_about_21 : decode cX4_about 21 = .ok (.getfield 11, 3) := by decide +kernel
theorem dX4_about_24 : decode cX4_about 24 = .ok (.iload_n 1, 1) := by decide +kernel
theorem dX4_about_25 : decode cX4_about 25 = .ok (.aaload, 1) := by decide +kernel
theorem dX4_about_26 : decode cX4_about 26 = .ok (.astore_n 3, 1) := by decide +kernel
theorem dX4_about_27 : decode cX4_about 27 = .ok (.aload_n 3, 1) := by decide +kernel
theorem dX4_about_28 : decode cX4_about 28 = .ok (.ifnonnull 8, 3) := by decide +kernel
theorem dX4_about_31 : decode cX4_about 31 = .ok (.bipush (-2), 2) := by decide +kernel
theorem dX4_about_33 : decode cX4_about 33 = .ok (.goto 8, 3) := by decide +kernel
theorem dX4_about_41 : decode cX4_about 41 = .ok (.ireturn, 1) := by decide +kernel
set_option maxRecDepth 20000 in
theorem ggX4_sign_X4_openStream : GoodIn wsX4_sign wsX4_openStream := goodIn_r _ [6, 7, 8, 9, 10, 5, 11, 34, 35, 36] (by decide +kernel) (by decide +kernel)
set_option maxRecDepth 20000 in
theorem gX4_sign_X4_openStream : GoodIn wsX4_sign (wsV RX4 72 RX4 yX4_openStream wsX4_openStream) := goodIn_app (goodIn_of _ (by decide +kernel)) ggX4_sign_X4_openStream
theorem dX4_sign_0 : decode cX4_sign 0 = .ok (.aload_n 0, 1) := by decide +kernel
theorem dX4_sign_1 : decode cX4_sign 1 = .ok (.iload_n 1, 1) := by decide +kernel
theorem dX4_sign_2 : decode cX4_sign 2 = .ok (.invokevirtual 72, 3) := by decide +kernel
theorem dX4_sign_5 : decode cX4_sign 5 = .ok (.astore_n 3, 1) := by decide +kernel
theorem dX4_sign_6 : decode cX4_sign 6 = .ok (.aload_n 3, 1) := by decide +kernel
theorem dX4_sign_7 : decode cX4_sign 7 = .ok (.ifnull 11, 3) := by decide +kernel
theorem dX4_sign_18 : decode cX4_sign 18 = .ok (.iconst (-1), 1) := by decide +kernel
theorem dX4_sign_19 : decode cX4_sign 19 = .ok (.ireturn, 1) := by decide +kernel
set_option maxRecDepth 20000 in
theorem ggX4_placed_X4_openStream : GoodIn wsX4_placed wsX4_openStream := goodIn_r _ [8, 9, 10, 11, 12, 7, 13, 36, 37, 38] (by decide +kernel) (by decide +kernel)
set_option maxRecDepth 20000 in
theorem gX4_placed_X4_openStream : GoodIn wsX4_placed (wsV RX4 72 RX4 yX4_openStream wsX4_openStream) := goodIn_app (goodIn_of _ (by decide +kernel)) ggX4_placed_X4_openStream
theorem dX4_placed_0 : decode cX4_placed 0 = .ok (.aload_n 0, 1) := by decide +kernel
theorem dX4_placed_1 : decode cX4_placed 1 = .ok (.iload_n 1, 1) := by decide +kernel
theorem dX4_placed_2 : decode cX4_placed 2 = .ok (.invokevirtual 72, 3) := by decide +kernel
theorem dX4_placed_5 : decode cX4_placed 5 = .ok (.astore 4, 2) := by decide +kernel
theorem dX4_placed_7 : decode cX4_placed 7 = .ok (.aload 4, 2) := by decide +kernel
theorem dX4_placed_9 : decode cX4_placed 9 = .ok (.ifnull 12, 3) := by decide +kernel
theorem dX4_placed_21 : decode cX4_placed 21 = .ok (.iconst (-1), 1) := by decide +kernel
theorem dX4_placed_22 : decode cX4_placed 22 = .ok (.ireturn, 1) := by decide +kernel
set_option maxRecDepth 20000 in
theorem ggX4_at_X4_openStream : GoodIn wsX4_at wsX4_openStream := goodIn_r _ [5, 6, 7, 8, 9, 4, 10, 19, 20, 21] (by decide +kernel) (by decide +kernel)
set_option maxRecDepth 20000 in
theorem gX4_at_X4_openStream : GoodIn wsX4_at (wsV RX4 72 RX4 yX4_openStream wsX4_openStream) := goodIn_app (goodIn_of _ (by decide +kernel)) ggX4_at_X4_openStream
theorem dX4_at_0 : decode cX4_at 0 = .ok (.aload_n 0, 1) := by decide +kernel
theorem dX4_at_1 : decode cX4_at 1 = .ok (.iload_n 1, 1) := by decide +kernel
theorem dX4_at_2 : decode cX4_at 2 = .ok (.invokevirtual 72, 3) := by decide +kernel
theorem dX4_at_5 : decode cX4_at 5 = .ok (.astore_n 3, 1) := by decide +kernel
theorem dX4_at_6 : decode cX4_at 6 = .ok (.aload_n 3, 1) := by decide +kernel
theorem dX4_at_7 : decode cX4_at 7 = .ok (.ifnonnull 7, 3) := by decide +kernel
theorem dX4_at_10 : decode cX4_at 10 = .ok (.iconst (-1), 1) := by decide +kernel
theorem dX4_at_11 : decode cX4_at 11 = .ok (.goto 8, 3) := by decide +kernel
theorem dX4_at_19 : decode cX4_at 19 = .ok (.ireturn, 1) := by decide +kernel
set_option maxRecDepth 20000 in
theorem ggX4_write_X4_isStream : GoodIn wsX4_write wsX4_isStream := goodIn_r _ [11, 1, 69, 70, 71] (by decide +kernel) (by decide +kernel)
set_option maxRecDepth 20000 in
theorem gX4_write_X4_isStream : GoodIn wsX4_write (wsV RX4 29 RX4 yX4_isStream wsX4_isStream) := goodIn_app (goodIn_of _ (by decide +kernel)) ggX4_write_X4_isStream
set_option maxRecDepth 20000 in
theorem ggX4_write_X4_isWritable : GoodIn wsX4_write wsX4_isWritable := goodIn_r _ [14] (by decide +kernel) (by decide +kernel)
set_option maxRecDepth 20000 in
theorem gX4_write_X4_isWritable : GoodIn wsX4_write (va_wsS RX4 95 yX4_isWritable wsX4_isWritable) := goodIn_app (goodIn_of _ (by decide +kernel)) ggX4_write_X4_isWritable
theorem dX4_write_0 : decode cX4_write 0 = .ok (.aload_n 0, 1) := by decide +kernel
theorem dX4_write_1 : decode cX4_write 1 = .ok (.iload_n 1, 1) := by decide +kernel
theorem dX4_write_2 : decode cX4_write 2 = .ok (.invokevirtual 29, 3) := by decide +kernel
theorem dX4_write_5 : decode cX4_write 5 = .ok (.ifCond .eq 10, 3) := by decide +kernel
theorem dX4_write_8 : decode cX4_write 8 = .ok (.iload_n 2, 1) := by decide +kernel
theorem dX4_write_9 : decode cX4_write 9 = .ok (.invokestatic 95, 3) := by decide +kernel
theorem dX4_write_12 : decode cX4_write 12 = .ok (.ifCond .ne 5, 3) := by decide +kernel
theorem dX4_write_15 : decode cX4_write 15 = .ok (.iconst (-1), 1) := by decide +kernel
theorem dX4_write_16 : decode cX4_write 16 = .ok (.ireturn, 1) := by decide +kernel
theorem dX4_write_17 : decode cX4_write 17 = .ok (.aload_n 0, 1) := by decide +kernel
theorem dX4_write_18 : decode cX4_write 18 = .ok (.getfield 11, 3) := by decide +kernel
theorem dX4_write_21 : decode cX4_write 21 = .ok (.iload_n 1, 1) := by decide +kernel
theorem dX4_write_22 : decode cX4_write 22 = .ok (.aaload, 1) := by decide +kernel
theorem dX4_write_23 : decode cX4_write 23 = .ok (.astore 4, 2) := by decide +kernel
theorem dX4_write_25 : decode cX4_write 25 = .ok (.aload 4, 2) := by decide +kernel
theorem dX4_write_27 : decode cX4_write 27 = .ok (.ifnonnull 6, 3) := by decide +kernel
theorem dX4_write_30 : decode cX4_write 30 = .ok (.bipush (-2), 2) := by decide +kernel
theorem dX4_write_32 : decode cX4_write 32 = .ok (.ireturn, 1) := by decide +kernel
set_option maxRecDepth 20000 in
theorem ggX4_size_X4_isStream : GoodIn wsX4_size wsX4_isStream := goodIn_r _ [7, 1, 23, 24, 25] (by decide +kernel) (by decide +kernel)
set_option maxRecDepth 20000 in
theorem gX4_size_X4_isStream : GoodIn wsX4_size (wsV RX4 29 RX4 yX4_isStream wsX4_isStream) := goodIn_app (goodIn_of _ (by decide +kernel)) ggX4_size_X4_isStream
set_option maxRecDepth 20000 in
theorem ggX4_size_X4_isWritable : GoodIn wsX4_size wsX4_isWritable := goodIn_r _ [10] (by decide +kernel) (by decide +kernel)
set_option maxRecDepth 20000 in
theorem gX4_size_X4_isWritable : GoodIn wsX4_size (va_wsS RX4 95 yX4_isWritable wsX4_isWritable) := goodIn_app (goodIn_of _ (by decide +kernel)) ggX4_size_X4_isWritable
theorem dX4_size_0 : decode cX4_size 0 = .ok (.aload_n 0, 1) := by decide +kernel
theorem dX4_size_1 : decode cX4_size 1 = .ok (.iload_n 1, 1) := by decide +kernel
theorem dX4_size_2 : decode cX4_size 2 = .ok (.invokevirtual 29, 3) := by decide +kernel
theorem dX4_size_5 : decode cX4_size 5 = .ok (.ifCond .eq 10, 3) := by decide +kernel
theorem dX4_size_8 : decode cX4_size 8 = .ok (.iload_n 2, 1) := by decide +kernel
theorem dX4_size_9 : decode cX4_size 9 = .ok (.invokestatic 95, 3) := by decide +kernel
theorem dX4_size_12 : decode cX4_size 12 = .ok (.ifCond .ne 5, 3) := by decide +kernel
theorem dX4_size_15 : decode cX4_size 15 = .ok (.iconst (-1), 1) := by decide +kernel
theorem dX4_size_16 : decode cX4_size 16 = .ok (.ireturn, 1) := by decide +kernel
theorem dX4_size_17 : decode cX4_size 17 = .ok (.aload_n 0, 1) := by decide +kernel
theorem dX4_size_18 : decode cX4_size 18 = .ok (.getfield 11, 3) := by decide +kernel
theorem dX4_size_21 : decode cX4_size 21 = .ok (.iload_n 1, 1) := by decide +kernel
theorem dX4_size_22 : decode cX4_size 22 = .ok (.aaload, 1) := by decide +kernel
theorem dX4_size_23 : decode cX4_size 23 = .ok (.astore 5, 2) := by decide +kernel
theorem dX4_size_25 : decode cX4_size 25 = .ok (.aload 5, 2) := by decide +kernel
theorem dX4_size_27 : decode cX4_size 27 = .ok (.ifnonnull 6, 3) := by decide +kernel
theorem dX4_size_30 : decode cX4_size 30 = .ok (.bipush (-2), 2) := by decide +kernel
theorem dX4_size_32 : decode cX4_size 32 = .ok (.ireturn, 1) := by decide +kernel
set_option maxRecDepth 20000 in
theorem ggX4_out_X1_byteAt : GoodIn wsX4_out wsX1_byteAt := goodIn_r _ [6, 7, 8, 12, 13] (by decide +kernel) (by decide +kernel)
set_option maxRecDepth 20000 in
theorem gX4_out_X1_byteAt : GoodIn wsX4_out (wsV RX4 65 RX1 yX1_byteAt wsX1_byteAt) := goodIn_app (goodIn_of _ (by decide +kernel)) ggX4_out_X1_byteAt
theorem dX4_out_0 : decode cX4_out 0 = .ok (.aload_n 0, 1) := by decide +kernel
theorem dX4_out_1 : decode cX4_out 1 = .ok (.getfield 18, 3) := by decide +kernel
theorem dX4_out_4 : decode cX4_out 4 = .ok (.iload_n 1, 1) := by decide +kernel
theorem dX4_out_5 : decode cX4_out 5 = .ok (.invokevirtual 65, 3) := by decide +kernel
theorem dX4_out_8 : decode cX4_out 8 = .ok (.ireturn, 1) := by decide +kernel
set_option maxRecDepth 20000 in
theorem ggX4_check_X4_isWritable : GoodIn wsX4_check wsX4_isWritable := goodIn_r _ [10] (by decide +kernel) (by decide +kernel)
set_option maxRecDepth 20000 in
theorem gX4_check_X4_isWritable : GoodIn wsX4_check (va_wsS RX4 95 yX4_isWritable wsX4_isWritable) := goodIn_app (goodIn_of _ (by decide +kernel)) ggX4_check_X4_isWritable
theorem dX4_check_0 : decode cX4_check 0 = .ok (.iload_n 1, 1) := by decide +kernel
theorem dX4_check_1 : decode cX4_check 1 = .ok (.invokestatic 95, 3) := by decide +kernel
theorem dX4_check_4 : decode cX4_check 4 = .ok (.ifCond .ne 5, 3) := by decide +kernel
theorem dX4_check_7 : decode cX4_check 7 = .ok (.iconst (-1), 1) := by decide +kernel
theorem dX4_check_8 : decode cX4_check 8 = .ok (.ireturn, 1) := by decide +kernel
theorem dX4_check_9 : decode cX4_check 9 = .ok (.iconst 0, 1) := by decide +kernel
theorem dX4_check_10 : decode cX4_check 10 = .ok (.istore_n 2, 1) := by decide +kernel
theorem dX4_check_11 : decode cX4_check 11 = .ok (.iconst 0, 1) := by decide +kernel
theorem dX4_check_12 : decode cX4_check 12 = .ok (.istore_n 3, 1) := by decide +kernel
theorem dX4_check_13 : decode cX4_check 13 = .ok (.iload_n 3, 1) := by decide +kernel
theorem dX4_check_14 : decode cX4_check 14 = .ok (.sipush 6000, 3) := by decide +kernel
theorem dX4_check_17 : decode cX4_check 17 = .ok (.if_icmp .ge 66, 3) := by decide +kernel
theorem dX4_check_20 : decode cX4_check 20 = .ok (.iload_n 2, 1) := by decide +kernel
theorem dX4_check_21 : decode cX4_check 21 = .ok (.aload_n 0, 1) := by decide +kernel
theorem dX4_check_22 : decode cX4_check 22 = .ok (.getfield 18, 3) := by decide +kernel
theorem dX4_check_25 : decode cX4_check 25 = .ok (.getfield 56, 3) := by decide +kernel
theorem dX4_check_28 : decode cX4_check 28 = .ok (.if_icmp .ge 55, 3) := by decide +kernel
theorem dX4_check_83 : decode cX4_check 83 = .ok (.bipush (-2), 2) := by decide +kernel
theorem dX4_check_85 : decode cX4_check 85 = .ok (.ireturn, 1) := by decide +kernel
set_option maxRecDepth 20000 in
theorem ggX4_order_X4_isStream : GoodIn wsX4_order wsX4_isStream := goodIn_r _ [12, 1, 33, 34, 35] (by decide +kernel) (by decide +kernel)
set_option maxRecDepth 20000 in
theorem gX4_order_X4_isStream : GoodIn wsX4_order (wsV RX4 29 RX4 yX4_isStream wsX4_isStream) := goodIn_app (goodIn_of _ (by decide +kernel)) ggX4_order_X4_isStream
theorem dX4_order_0 : decode cX4_order 0 = .ok (.aload_n 0, 1) := by decide +kernel
theorem dX4_order_1 : decode cX4_order 1 = .ok (.iload_n 1, 1) := by decide +kernel
theorem dX4_order_2 : decode cX4_order 2 = .ok (.invokevirtual 29, 3) := by decide +kernel
theorem dX4_order_5 : decode cX4_order 5 = .ok (.ifCond .eq 20, 3) := by decide +kernel
theorem dX4_order_8 : decode cX4_order 8 = .ok (.aload_n 0, 1) := by decide +kernel
theorem dX4_order_9 : decode cX4_order 9 = .ok (.iload_n 2, 1) := by decide +kernel
theorem dX4_order_10 : decode cX4_order 10 = .ok (.invokevirtual 29, 3) := by decide +kernel
theorem dX4_order_13 : decode cX4_order 13 = .ok (.ifCond .eq 12, 3) := by decide +kernel
theorem dX4_order_16 : decode cX4_order 16 = .ok (.iload_n 3, 1) := by decide +kernel
theorem dX4_order_17 : decode cX4_order 17 = .ok (.ifCond .lt 8, 3) := by decide +kernel
theorem dX4_order_20 : decode cX4_order 20 = .ok (.iload_n 3, 1) := by decide +kernel
theorem dX4_order_21 : decode cX4_order 21 = .ok (.iconst 2, 1) := by decide +kernel
theorem dX4_order_22 : decode cX4_order 22 = .ok (.if_icmp .le 5, 3) := by decide +kernel
theorem dX4_order_25 : decode cX4_order 25 = .ok (.iconst (-1), 1) := by decide +kernel
theorem dX4_order_26 : decode cX4_order 26 = .ok (.ireturn, 1) := by decide +kernel
theorem dX4_order_27 : decode cX4_order 27 = .ok (.aload_n 0, 1) := by decide +kernel
theorem dX4_order_28 : decode cX4_order 28 = .ok (.getfield 11, 3) := by decide +kernel
theorem dX4_order_31 : decode cX4_order 31 = .ok (.iload_n 1, 1) := by decide +kernel
theorem dX4_order_32 : decode cX4_order 32 = .ok (.aaload, 1) := by decide +kernel
theorem dX4_order_33 : decode cX4_order 33 = .ok (.astore 4, 2) := by decide +kernel
theorem dX4_order_35 : decode cX4_order 35 = .ok (.aload_n 0, 1) := by decide +kernel
theorem dX4_order_36 : decode cX4_order 36 = .ok (.getfield 11, 3) := by decide +kernel
theorem dX4_order_39 : decode cX4_order 39 = .ok (.iload_n 2, 1) := by decide +kernel
theorem dX4_order_40 : decode cX4_order 40 = .ok (.aaload, 1) := by decide +kernel
theorem dX4_order_41 : decode cX4_order 41 = .ok (.astore 5, 2) := by decide +kernel
theorem dX4_order_43 : decode cX4_order 43 = .ok (.aload 4, 2) := by decide +kernel
theorem dX4_order_45 : decode cX4_order 45 = .ok (.ifnull 8, 3) := by decide +kernel
theorem dX4_order_53 : decode cX4_order 53 = .ok (.bipush (-2), 2) := by decide +kernel
theorem dX4_order_55 : decode cX4_order 55 = .ok (.ireturn, 1) := by decide +kernel
set_option maxRecDepth 20000 in
theorem ggX4_among_X4_isStream : GoodIn wsX4_among wsX4_isStream := goodIn_r _ [6, 1, 14, 15, 16] (by decide +kernel) (by decide +kernel)
set_option maxRecDepth 20000 in
theorem gX4_among_X4_isStream : GoodIn wsX4_among (wsV RX4 29 RX4 yX4_isStream wsX4_isStream) := goodIn_app (goodIn_of _ (by decide +kernel)) ggX4_among_X4_isStream
theorem dX4_among_0 : decode cX4_among 0 = .ok (.aload_n 0, 1) := by decide +kernel
theorem dX4_among_1 : decode cX4_among 1 = .ok (.iload_n 1, 1) := by decide +kernel
theorem dX4_among_2 : decode cX4_among 2 = .ok (.invokevirtual 29, 3) := by decide +kernel
theorem dX4_among_5 : decode cX4_among 5 = .ok (.ifCond .ne 5, 3) := by decide +kernel
theorem dX4_among_8 : decode cX4_among 8 = .ok (.iconst (-1), 1) := by decide +kernel
theorem dX4_among_9 : decode cX4_among 9 = .ok (.ireturn, 1) := by decide +kernel
theorem dX4_among_10 : decode cX4_among 10 = .ok (.aload_n 0, 1) := by decide +kernel
theorem dX4_among_11 : decode cX4_among 11 = .ok (.getfield 11, 3) := by decide +kernel
theorem dX4_among_14 : decode cX4_among 14 = .ok (.iload_n 1, 1) := by decide +kernel
theorem dX4_among_15 : decode cX4_among 15 = .ok (.aaload, 1) := by decide +kernel
theorem dX4_among_16 : decode cX4_among 16 = .ok (.astore 4, 2) := by decide +kernel
theorem dX4_among_18 : decode cX4_among 18 = .ok (.aload 4, 2) := by decide +kernel
theorem dX4_among_20 : decode cX4_among 20 = .ok (.ifnonnull 8, 3) := by decide +kernel
theorem dX4_among_23 : decode cX4_among 23 = .ok (.bipush (-2), 2) := by decide +kernel
theorem dX4_among_25 : decode cX4_among 25 = .ok (.goto 10, 3) := by decide +kernel
theorem dX4_among_35 : decode cX4_among 35 = .ok (.ireturn, 1) := by decide +kernel
theorem dX4_isStream_0 : decode cX4_isStream 0 = .ok (.iload_n 1, 1) := by decide +kernel
theorem dX4_isStream_1 : decode cX4_isStream 1 = .ok (.ifCond .lt 16, 3) := by decide +kernel
theorem dX4_isStream_4 : decode cX4_isStream 4 = .ok (.iload_n 1, 1) := by decide +kernel
theorem dX4_isStream_5 : decode cX4_isStream 5 = .ok (.aload_n 0, 1) := by decide +kernel
theorem dX4_isStream_6 : decode cX4_isStream 6 = .ok (.getfield 11, 3) := by decide +kernel
theorem dX4_isStream_9 : decode cX4_isStream 9 = .ok (.arraylength, 1) := by decide +kernel
theorem dX4_isStream_10 : decode cX4_isStream 10 = .ok (.if_icmp .ge 7, 3) := by decide +kernel
theorem dX4_isStream_13 : decode cX4_isStream 13 = .ok (.iconst 1, 1) := by decide +kernel
theorem dX4_isStream_14 : decode cX4_isStream 14 = .ok (.goto 4, 3) := by decide +kernel
theorem dX4_isStream_17 : decode cX4_isStream 17 = .ok (.iconst 0, 1) := by decide +kernel
theorem dX4_isStream_18 : decode cX4_isStream 18 = .ok (.ireturn, 1) := by decide +kernel
set_option maxRecDepth 20000 in
theorem ggX4_openStream_X4_isStream : GoodIn wsX4_openStream wsX4_isStream := goodIn_r _ [6, 1, 7, 8, 9] (by decide +kernel) (by decide +kernel)
set_option maxRecDepth 20000 in
theorem gX4_openStream_X4_isStream : GoodIn wsX4_openStream (wsV RX4 29 RX4 yX4_isStream wsX4_isStream) := goodIn_app (goodIn_of _ (by decide +kernel)) ggX4_openStream_X4_isStream
theorem dX4_openStream_0 : decode cX4_openStream 0 = .ok (.aload_n 0, 1) := by decide +kernel
theorem dX4_openStream_1 : decode cX4_openStream 1 = .ok (.iload_n 1, 1) := by decide +kernel
theorem dX4_openStream_2 : decode cX4_openStream 2 = .ok (.invokevirtual 29, 3) := by decide +kernel
theorem dX4_openStream_5 : decode cX4_openStream 5 = .ok (.ifCond .eq 12, 3) := by decide +kernel
theorem dX4_openStream_8 : decode cX4_openStream 8 = .ok (.aload_n 0, 1) := by decide +kernel
theorem dX4_openStream_9 : decode cX4_openStream 9 = .ok (.getfield 11, 3) := by decide +kernel
theorem dX4_openStream_12 : decode cX4_openStream 12 = .ok (.iload_n 1, 1) := by decide +kernel
theorem dX4_openStream_13 : decode cX4_openStream 13 = .ok (.aaload, 1) := by decide +kernel
theorem dX4_openStream_14 : decode cX4_openStream 14 = .ok (.goto 4, 3) := by decide +kernel
theorem dX4_openStream_17 : decode cX4_openStream 17 = .ok (.aconst_null, 1) := by decide +kernel
theorem dX4_openStream_18 : decode cX4_openStream 18 = .ok (.areturn, 1) := by decide +kernel
theorem dX4_isWritable_0 : decode cX4_isWritable 0 = .ok (.iload_n 0, 1) := by decide +kernel
theorem dX4_isWritable_1 : decode cX4_isWritable 1 = .ok (.ifCond .lt 12, 3) := by decide +kernel
theorem dX4_isWritable_4 : decode cX4_isWritable 4 = .ok (.iload_n 0, 1) := by decide +kernel
theorem dX4_isWritable_5 : decode cX4_isWritable 5 = .ok (.iconst 5, 1) := by decide +kernel
theorem dX4_isWritable_6 : decode cX4_isWritable 6 = .ok (.if_icmp .gt 7, 3) := by decide +kernel
theorem dX4_isWritable_9 : decode cX4_isWritable 9 = .ok (.iconst 1, 1) := by decide +kernel
theorem dX4_isWritable_10 : decode cX4_isWritable 10 = .ok (.goto 4, 3) := by decide +kernel
theorem dX4_isWritable_13 : decode cX4_isWritable 13 = .ok (.iconst 0, 1) := by decide +kernel
theorem dX4_isWritable_14 : decode cX4_isWritable 14 = .ok (.ireturn, 1) := by decide +kernel
end
section
theorem dX5_isStream_0 : decode cX5_isStream 0 = .ok (.iload_n 0, 1) := by decide +kernel
theorem dX5_isStream_1 : decode cX5_isStream 1 = .ok (.ifCond .lt 12, 3) := by decide +kernel
theorem dX5_isStream_4 : decode cX5_isStream 4 = .ok (.iload_n 0, 1) := by decide +kernel
theorem dX5_isStream_5 : decode cX5_isStream 5 = .ok (.iconst 4, 1) := by decide +kernel
theorem dX5_isStream_6 : decode cX5_isStream 6 = .ok (.if_icmp .ge 7, 3) := by decide +kernel
theorem dX5_isStream_9 : decode cX5_isStream 9 = .ok (.iconst 1, 1) := by decide +kernel
theorem dX5_isStream_10 : decode cX5_isStream 10 = .ok (.goto 4, 3) := by decide +kernel
theorem dX5_isStream_13 : decode cX5_isStream 13 = .ok (.iconst 0, 1) := by decide +kernel
theorem dX5_isStream_14 : decode cX5_isStream 14 = .ok (.ireturn, 1) := by decide +kernel
theorem dX5_isForm_0 : decode cX5_isForm 0 = .ok (.iload_n 0, 1) := by decide +kernel
theorem dX5_isForm_1 : decode cX5_isForm 1 = .ok (.ifCond .lt 13, 3) := by decide +kernel
theorem dX5_isForm_4 : decode cX5_isForm 4 = .ok (.iload_n 0, 1) := by decide +kernel
theorem dX5_isForm_5 : decode cX5_isForm 5 = .ok (.bipush 6, 2) := by decide +kernel
theorem dX5_isForm_7 : decode cX5_isForm 7 = .ok (.if_icmp .ge 7, 3) := by decide +kernel
theorem dX5_isForm_10 : decode cX5_isForm 10 = .ok (.iconst 1, 1) := by decide +kernel
theorem dX5_isForm_11 : decode cX5_isForm 11 = .ok (.goto 4, 3) := by decide +kernel
theorem dX5_isForm_14 : decode cX5_isForm 14 = .ok (.iconst 0, 1) := by decide +kernel
theorem dX5_isForm_15 : decode cX5_isForm 15 = .ok (.ireturn, 1) := by decide +kernel
theorem dX5_takes_0 : decode cX5_takes 0 = .ok (.aload_n 0, 1) := by decide +kernel
theorem dX5_takes_1 : decode cX5_takes 1 = .ok (.getfield 7, 3) := by decide +kernel
theorem dX5_takes_4 : decode cX5_takes 4 = .ok (.iload_n 1, 1) := by decide +kernel
theorem dX5_takes_5 : decode cX5_takes 5 = .ok (.baload, 1) := by decide +kernel
theorem dX5_takes_6 : decode cX5_takes 6 = .ok (.ifCond .eq 16, 3) := by decide +kernel
theorem dX5_takes_22 : decode cX5_takes 22 = .ok (.iconst 0, 1) := by decide +kernel
theorem dX5_takes_23 : decode cX5_takes 23 = .ok (.ireturn, 1) := by decide +kernel
set_option maxRecDepth 20000 in
theorem ggX5_put_X5_isStream : GoodIn wsX5_put wsX5_isStream := goodIn_r _ [7] (by decide +kernel) (by decide +kernel)
set_option maxRecDepth 20000 in
theorem gX5_put_X5_isStream : GoodIn wsX5_put (va_wsS RX5 134 yX5_isStream wsX5_isStream) := goodIn_app (goodIn_of _ (by decide +kernel)) ggX5_put_X5_isStream
set_option maxRecDepth 20000 in
theorem ggX5_put_X5_takes : GoodIn wsX5_put wsX5_takes := goodIn_r _ [11, 12, 13, 90, 91, 92, 93, 94, 95, 96, 97, 98, 99, 100, 101, 102, 103, 104, 105, 106, 107, 108, 109, 110, 111, 112] (by decide +kernel) (by decide +kernel)
set_option maxRecDepth 20000 in
theorem gX5_put_X5_takes : GoodIn wsX5_put (wsV RX5 142 RX5 yX5_takes wsX5_takes) := goodIn_app (goodIn_of _ (by decide +kernel)) ggX5_put_X5_takes
theorem dX5_put_0 : decode cX5_put 0 = .ok (.iload_n 1, 1) := by decide +kernel
theorem dX5_put_1 : decode cX5_put 1 = .ok (.invokestatic 134, 3) := by decide +kernel
theorem dX5_put_4 : decode cX5_put 4 = .ok (.ifCond .eq 16, 3) := by decide +kernel
theorem dX5_put_7 : decode cX5_put 7 = .ok (.iload 4, 2) := by decide +kernel
theorem dX5_put_9 : decode cX5_put 9 = .ok (.iconst 1, 1) := by decide +kernel
theorem dX5_put_10 : decode cX5_put 10 = .ok (.if_icmp .lt 10, 3) := by decide +kernel
theorem dX5_put_13 : decode cX5_put 13 = .ok (.iload 4, 2) := by decide +kernel
theorem dX5_put_15 : decode cX5_put 15 = .ok (.bipush 8, 2) := by decide +kernel
theorem dX5_put_17 : decode cX5_put 17 = .ok (.if_icmp .le 5, 3) := by decide +kernel
theorem dX5_put_20 : decode cX5_put 20 = .ok (.iconst (-1), 1) := by decide +kernel
theorem dX5_put_21 : decode cX5_put 21 = .ok (.ireturn, 1) := by decide +kernel
theorem dX5_put_22 : decode cX5_put 22 = .ok (.aload_n 0, 1) := by decide +kernel
theorem dX5_put_23 : decode cX5_put 23 = .ok (.iload_n 1, 1) := by decide +kernel
theorem dX5_put_24 : decode cX5_put 24 = .ok (.invokevirtual 142, 3) := by decide +kernel
theorem dX5_put_27 : decode cX5_put 27 = .ok (.ifCond .ne 6, 3) := by decide +kernel
theorem dX5_put_30 : decode cX5_put 30 = .ok (.bipush (-2), 2) := by decide +kernel
theorem dX5_put_32 : decode cX5_put 32 = .ok (.ireturn, 1) := by decide +kernel
set_option maxRecDepth 20000 in
theorem ggX5_pour_X5_isStream : GoodIn wsX5_pour wsX5_isStream := goodIn_r _ [8] (by decide +kernel) (by decide +kernel)
set_option maxRecDepth 20000 in
theorem gX5_pour_X5_isStream : GoodIn wsX5_pour (va_wsS RX5 134 yX5_isStream wsX5_isStream) := goodIn_app (goodIn_of _ (by decide +kernel)) ggX5_pour_X5_isStream
set_option maxRecDepth 20000 in
theorem ggX5_pour_X5_takes : GoodIn wsX5_pour wsX5_takes := goodIn_r _ [12, 13, 14, 92, 93, 94, 95, 96, 97, 98, 99, 100, 101, 102, 103, 104, 105, 106, 107, 108, 109, 110, 111, 112, 113, 114] (by decide +kernel) (by decide +kernel)
set_option maxRecDepth 20000 in
theorem gX5_pour_X5_takes : GoodIn wsX5_pour (wsV RX5 142 RX5 yX5_takes wsX5_takes) := goodIn_app (goodIn_of _ (by decide +kernel)) ggX5_pour_X5_takes
theorem dX5_pour_0 : decode cX5_pour 0 = .ok (.iload_n 1, 1) := by decide +kernel
theorem dX5_pour_1 : decode cX5_pour 1 = .ok (.invokestatic 134, 3) := by decide +kernel
theorem dX5_pour_4 : decode cX5_pour 4 = .ok (.ifCond .eq 19, 3) := by decide +kernel
theorem dX5_pour_7 : decode cX5_pour 7 = .ok (.iload_n 2, 1) := by decide +kernel
theorem dX5_pour_8 : decode cX5_pour 8 = .ok (.ifCond .lt 15, 3) := by decide +kernel
theorem dX5_pour_11 : decode cX5_pour 11 = .ok (.iload_n 2, 1) := by decide +kernel
theorem dX5_pour_12 : decode cX5_pour 12 = .ok (.aload_n 0, 1) := by decide +kernel
theorem dX5_pour_13 : decode cX5_pour 13 = .ok (.getfield 68, 3) := by decide +kernel
theorem dX5_pour_16 : decode cX5_pour 16 = .ok (.if_icmp .gt 7, 3) := by decide +kernel
theorem dX5_pour_19 : decode cX5_pour 19 = .ok (.iload_n 3, 1) := by decide +kernel
theorem dX5_pour_20 : decode cX5_pour 20 = .ok (.ifCond .ge 5, 3) := by decide +kernel
theorem dX5_pour_23 : decode cX5_pour 23 = .ok (.iconst (-1), 1) := by decide +kernel
theorem dX5_pour_24 : decode cX5_pour 24 = .ok (.ireturn, 1) := by decide +kernel
theorem dX5_pour_25 : decode cX5_pour 25 = .ok (.aload_n 0, 1) := by decide +kernel
theorem dX5_pour_26 : decode cX5_pour 26 = .ok (.iload_n 1, 1) := by decide +kernel
theorem dX5_pour_27 : decode cX5_pour 27 = .ok (.invokevirtual 142, 3) := by decide +kernel
theorem dX5_pour_30 : decode cX5_pour 30 = .ok (.ifCond .ne 6, 3) := by decide +kernel
theorem dX5_pour_33 : decode cX5_pour 33 = .ok (.bipush (-2), 2) := by decide +kernel
theorem dX5_pour_35 : decode cX5_pour 35 = .ok (.ireturn, 1) := by decide +kernel
set_option maxRecDepth 20000 in
theorem ggX5_end_X5_isStream : GoodIn wsX5_end wsX5_isStream := goodIn_r _ [6] (by decide +kernel) (by decide +kernel)
set_option maxRecDepth 20000 in
theorem gX5_end_X5_isStream : GoodIn wsX5_end (va_wsS RX5 134 yX5_isStream wsX5_isStream) := goodIn_app (goodIn_of _ (by decide +kernel)) ggX5_end_X5_isStream
set_option maxRecDepth 20000 in
theorem ggX5_end_X5_takes : GoodIn wsX5_end wsX5_takes := goodIn_r _ [10, 11, 1, 90, 91, 92, 93, 94, 95, 96, 97, 98, 99, 100, 101, 102, 103, 104, 105, 106, 107, 108, 109, 110, 111, 112] (by decide +kernel) (by decide +kernel)
set_option maxRecDepth 20000 in
theorem gX5_end_X5_takes : GoodIn wsX5_end (wsV RX5 142 RX5 yX5_takes wsX5_takes) := goodIn_app (goodIn_of _ (by decide +kernel)) ggX5_end_X5_takes
theorem dX5_end_0 : decode cX5_end 0 = .ok (.iload_n 1, 1) := by decide +kernel
theorem dX5_end_1 : decode cX5_end 1 = .ok (.invokestatic 134, 3) := by decide +kernel
theorem dX5_end_4 : decode cX5_end 4 = .ok (.ifCond .ne 5, 3) := by decide +kernel
theorem dX5_end_7 : decode cX5_end 7 = .ok (.iconst (-1), 1) := by decide +kernel
theorem dX5_end_8 : decode cX5_end 8 = .ok (.ireturn, 1) := by decide +kernel
theorem dX5_end_9 : decode cX5_end 9 = .ok (.aload_n 0, 1) := by decide +kernel
theorem dX5_end_10 : decode cX5_end 10 = .ok (.iload_n 1, 1) := by decide +kernel
theorem dX5_end_11 : decode cX5_end 11 = .ok (.invokevirtual 142, 3) := by decide +kernel
theorem dX5_end_14 : decode cX5_end 14 = .ok (.ifCond .ne 6, 3) := by decide +kernel
theorem dX5_end_17 : decode cX5_end 17 = .ok (.bipush (-2), 2) := by decide +kernel
theorem dX5_end_19 : decode cX5_end 19 = .ok (.ireturn, 1) := by decide +kernel
set_option maxRecDepth 20000 in
theorem ggX5_about_X5_isStream : GoodIn wsX5_about wsX5_isStream := goodIn_r _ [14] (by decide +kernel) (by decide +kernel)
set_option maxRecDepth 20000 in
theorem gX5_about_X5_isStream : GoodIn wsX5_about (va_wsS RX5 134 yX5_isStream wsX5_isStream) := goodIn_app (goodIn_of _ (by decide +kernel)) ggX5_about_X5_isStream
theorem dX5_about_0 : decode cX5_about 0 = .ok (.iload_n 1, 1) := by decide +kernel
theorem dX5_about_1 : decode cX5_about 1 = .ok (.invokestatic 134, 3) := by decide +kernel
theorem dX5_about_4 : decode cX5_about 4 = .ok (.ifCond .eq 13, 3) := by decide +kernel
theorem dX5_about_7 : decode cX5_about 7 = .ok (.iload_n 2, 1) := by decide +kernel
theorem dX5_about_8 : decode cX5_about 8 = .ok (.ifCond .lt 9, 3) := by decide +kernel
theorem dX5_about_11 : decode cX5_about 11 = .ok (.iload_n 2, 1) := by decide +kernel
theorem dX5_about_12 : decode cX5_about 12 = .ok (.bipush 8, 2) := by decide +kernel
theorem dX5_about_14 : decode cX5_about 14 = .ok (.if_icmp .le 5, 3) := by decide +kernel
theorem dX5_about_17 : decode cX5_about 17 = .ok (.iconst (-1), 1) := by decide +kernel
theorem dX5_about_18 : decode cX5_about 18 = .ok (.ireturn, 1) := by decide +kernel
theorem dX5_about_19 : decode cX5_about 19 = .ok (.aload_n 0, 1) := by decide +kernel
theorem dX5_about_20 : decode cX5_about 20 = .ok (.getfield 7, 3) := by decide +kernel
theorem dX5_about_23 : decode cX5_about 23 = .ok (.iload_n 1, 1) := by decide +kernel
theorem dX5_about_24 : decode cX5_about 24 = .ok (.baload, 1) := by decide +kernel
theorem dX5_about_25 : decode cX5_about 25 = .ok (.ifCond .ne 6, 3) := by decide +kernel
theorem dX5_about_28 : decode cX5_about 28 = .ok (.bipush (-2), 2) := by decide +kernel
theorem dX5_about_30 : decode cX5_about 30 = .ok (.ireturn, 1) := by decide +kernel
set_option maxRecDepth 20000 in
theorem ggX5_isSign_X5_isStream : GoodIn wsX5_isSign wsX5_isStream := goodIn_r _ [6] (by decide +kernel) (by decide +kernel)
set_option maxRecDepth 20000 in
theorem gX5_isSign_X5_isStream : GoodIn wsX5_isSign (va_wsS RX5 134 yX5_isStream wsX5_isStream) := goodIn_app (goodIn_of _ (by decide +kernel)) ggX5_isSign_X5_isStream
theorem dX5_isSign_0 : decode cX5_isSign 0 = .ok (.iload_n 1, 1) := by decide +kernel
theorem dX5_isSign_1 : decode cX5_isSign 1 = .ok (.invokestatic 134, 3) := by decide +kernel
theorem dX5_isSign_4 : decode cX5_isSign 4 = .ok (.ifCond .eq 30, 3) := by decide +kernel
theorem dX5_isSign_7 : decode cX5_isSign 7 = .ok (.aload_n 0, 1) := by decide +kernel
theorem dX5_isSign_8 : decode cX5_isSign 8 = .ok (.getfield 7, 3) := by decide +kernel
theorem dX5_isSign_11 : decode cX5_isSign 11 = .ok (.iload_n 1, 1) := by decide +kernel
theorem dX5_isSign_12 : decode cX5_isSign 12 = .ok (.baload, 1) := by decide +kernel
theorem dX5_isSign_13 : decode cX5_isSign 13 = .ok (.ifCond .eq 21, 3) := by decide +kernel
theorem dX5_isSign_34 : decode cX5_isSign 34 = .ok (.iconst 0, 1) := by decide +kernel
theorem dX5_isSign_35 : decode cX5_isSign 35 = .ok (.ireturn, 1) := by decide +kernel
set_option maxRecDepth 20000 in
theorem ggX5_sign_X5_isSign : GoodIn wsX5_sign wsX5_isSign := goodIn_r _ [6, 7, 8, 9, 10, 5, 11, 12, 13, 14, 15, 16, 17, 18, 19, 20, 21, 22, 23, 24, 25, 26, 27, 28, 29, 30, 31, 32, 33, 34] (by decide +kernel) (by decide +kernel)
set_option maxRecDepth 20000 in
theorem gX5_sign_X5_isSign : GoodIn wsX5_sign (wsV RX5 145 RX5 yX5_isSign wsX5_isSign) := goodIn_app (goodIn_of _ (by decide +kernel)) ggX5_sign_X5_isSign
theorem dX5_sign_0 : decode cX5_sign 0 = .ok (.aload_n 0, 1) := by decide +kernel
theorem dX5_sign_1 : decode cX5_sign 1 = .ok (.iload_n 1, 1) := by decide +kernel
theorem dX5_sign_2 : decode cX5_sign 2 = .ok (.iload_n 2, 1) := by decide +kernel
theorem dX5_sign_3 : decode cX5_sign 3 = .ok (.invokevirtual 145, 3) := by decide +kernel
theorem dX5_sign_6 : decode cX5_sign 6 = .ok (.ifCond .eq 18, 3) := by decide +kernel
theorem dX5_sign_24 : decode cX5_sign 24 = .ok (.iconst (-1), 1) := by decide +kernel
theorem dX5_sign_25 : decode cX5_sign 25 = .ok (.ireturn, 1) := by decide +kernel
set_option maxRecDepth 20000 in
theorem ggX5_placed_X5_isSign : GoodIn wsX5_placed wsX5_isSign := goodIn_r _ [8, 9, 10, 11, 12, 7, 13, 14, 15, 16, 17, 18, 19, 20, 21, 22, 23, 24, 25, 26, 27, 28, 29, 30, 31, 32, 33, 34, 35, 36] (by decide +kernel) (by decide +kernel)
set_option maxRecDepth 20000 in
theorem gX5_placed_X5_isSign : GoodIn wsX5_placed (wsV RX5 145 RX5 yX5_isSign wsX5_isSign) := goodIn_app (goodIn_of _ (by decide +kernel)) ggX5_placed_X5_isSign
theorem dX5_placed_0 : decode cX5_placed 0 = .ok (.aload_n 0, 1) := by decide +kernel
theorem dX5_placed_1 : decode cX5_placed 1 = .ok (.iload_n 1, 1) := by decide +kernel
theorem dX5_placed_2 : decode cX5_placed 2 = .ok (.iload_n 2, 1) := by decide +kernel
theorem dX5_placed_3 : decode cX5_placed 3 = .ok (.invokevirtual 145, 3) := by decide +kernel
theorem dX5_placed_6 : decode cX5_placed 6 = .ok (.ifCond .eq 12, 3) := by decide +kernel
theorem dX5_placed_18 : decode cX5_placed 18 = .ok (.iconst (-1), 1) := by decide +kernel
theorem dX5_placed_19 : decode cX5_placed 19 = .ok (.ireturn, 1) := by decide +kernel
set_option maxRecDepth 20000 in
theorem ggX5_at_X5_isStream : GoodIn wsX5_at wsX5_isStream := goodIn_r _ [8] (by decide +kernel) (by decide +kernel)
set_option maxRecDepth 20000 in
theorem gX5_at_X5_isStream : GoodIn wsX5_at (va_wsS RX5 134 yX5_isStream wsX5_isStream) := goodIn_app (goodIn_of _ (by decide +kernel)) ggX5_at_X5_isStream
theorem dX5_at_0 : decode cX5_at 0 = .ok (.iload_n 1, 1) := by decide +kernel
theorem dX5_at_1 : decode cX5_at 1 = .ok (.invokestatic 134, 3) := by decide +kernel
theorem dX5_at_4 : decode cX5_at 4 = .ok (.ifCond .eq 12, 3) := by decide +kernel
theorem dX5_at_7 : decode cX5_at 7 = .ok (.aload_n 0, 1) := by decide +kernel
theorem dX5_at_8 : decode cX5_at 8 = .ok (.getfield 7, 3) := by decide +kernel
theorem dX5_at_11 : decode cX5_at 11 = .ok (.iload_n 1, 1) := by decide +kernel
theorem dX5_at_12 : decode cX5_at 12 = .ok (.baload, 1) := by decide +kernel
theorem dX5_at_13 : decode cX5_at 13 = .ok (.ifCond .ne 5, 3) := by decide +kernel
theorem dX5_at_16 : decode cX5_at 16 = .ok (.iconst (-1), 1) := by decide +kernel
theorem dX5_at_17 : decode cX5_at 17 = .ok (.ireturn, 1) := by decide +kernel
set_option maxRecDepth 20000 in
theorem ggX5_write_X5_isStream : GoodIn wsX5_write wsX5_isStream := goodIn_r _ [12] (by decide +kernel) (by decide +kernel)
set_option maxRecDepth 20000 in
theorem gX5_write_X5_isStream : GoodIn wsX5_write (va_wsS RX5 134 yX5_isStream wsX5_isStream) := goodIn_app (goodIn_of _ (by decide +kernel)) ggX5_write_X5_isStream
set_option maxRecDepth 20000 in
theorem ggX5_write_X5_isForm : GoodIn wsX5_write wsX5_isForm := goodIn_r _ [15] (by decide +kernel) (by decide +kernel)
set_option maxRecDepth 20000 in
theorem gX5_write_X5_isForm : GoodIn wsX5_write (va_wsS RX5 162 yX5_isForm wsX5_isForm) := goodIn_app (goodIn_of _ (by decide +kernel)) ggX5_write_X5_isForm
theorem dX5_write_0 : decode cX5_write 0 = .ok (.iload_n 1, 1) := by decide +kernel
theorem dX5_write_1 : decode cX5_write 1 = .ok (.invokestatic 134, 3) := by decide +kernel
theorem dX5_write_4 : decode cX5_write 4 = .ok (.ifCond .eq 10, 3) := by decide +kernel
theorem dX5_write_7 : decode cX5_write 7 = .ok (.iload_n 2, 1) := by decide +kernel
theorem dX5_write_8 : decode cX5_write 8 = .ok (.invokestatic 162, 3) := by decide +kernel
theorem dX5_write_11 : decode cX5_write 11 = .ok (.ifCond .ne 5, 3) := by decide +kernel
theorem dX5_write_14 : decode cX5_write 14 = .ok (.iconst (-1), 1) := by decide +kernel
theorem dX5_write_15 : decode cX5_write 15 = .ok (.ireturn, 1) := by decide +kernel
theorem dX5_write_16 : decode cX5_write 16 = .ok (.aload_n 0, 1) := by decide +kernel
theorem dX5_write_17 : decode cX5_write 17 = .ok (.getfield 7, 3) := by decide +kernel
theorem dX5_write_20 : decode cX5_write 20 = .ok (.iload_n 1, 1) := by decide +kernel
theorem dX5_write_21 : decode cX5_write 21 = .ok (.baload, 1) := by decide +kernel
theorem dX5_write_22 : decode cX5_write 22 = .ok (.ifCond .ne 6, 3) := by decide +kernel
theorem dX5_write_25 : decode cX5_write 25 = .ok (.bipush (-2), 2) := by decide +kernel
theorem dX5_write_27 : decode cX5_write 27 = .ok (.ireturn, 1) := by decide +kernel
set_option maxRecDepth 20000 in
theorem ggX5_size_X5_isStream : GoodIn wsX5_size wsX5_isStream := goodIn_r _ [7] (by decide +kernel) (by decide +kernel)
set_option maxRecDepth 20000 in
theorem gX5_size_X5_isStream : GoodIn wsX5_size (va_wsS RX5 134 yX5_isStream wsX5_isStream) := goodIn_app (goodIn_of _ (by decide +kernel)) ggX5_size_X5_isStream
set_option maxRecDepth 20000 in
theorem ggX5_size_X5_isForm : GoodIn wsX5_size wsX5_isForm := goodIn_r _ [10] (by decide +kernel) (by decide +kernel)
set_option maxRecDepth 20000 in
theorem gX5_size_X5_isForm : GoodIn wsX5_size (va_wsS RX5 162 yX5_isForm wsX5_isForm) := goodIn_app (goodIn_of _ (by decide +kernel)) ggX5_size_X5_isForm
theorem dX5_size_0 : decode cX5_size 0 = .ok (.iload_n 1, 1) := by decide +kernel
theorem dX5_size_1 : decode cX5_size 1 = .ok (.invokestatic 134, 3) := by decide +kernel
theorem dX5_size_4 : decode cX5_size 4 = .ok (.ifCond .eq 10, 3) := by decide +kernel
theorem dX5_size_7 : decode cX5_size 7 = .ok (.iload_n 2, 1) := by decide +kernel
theorem dX5_size_8 : decode cX5_size 8 = .ok (.invokestatic 162, 3) := by decide +kernel
theorem dX5_size_11 : decode cX5_size 11 = .ok (.ifCond .ne 5, 3) := by decide +kernel
theorem dX5_size_14 : decode cX5_size 14 = .ok (.iconst (-1), 1) := by decide +kernel
theorem dX5_size_15 : decode cX5_size 15 = .ok (.ireturn, 1) := by decide +kernel
theorem dX5_size_16 : decode cX5_size 16 = .ok (.aload_n 0, 1) := by decide +kernel
theorem dX5_size_17 : decode cX5_size 17 = .ok (.getfield 7, 3) := by decide +kernel
theorem dX5_size_20 : decode cX5_size 20 = .ok (.iload_n 1, 1) := by decide +kernel
theorem dX5_size_21 : decode cX5_size 21 = .ok (.baload, 1) := by decide +kernel
theorem dX5_size_22 : decode cX5_size 22 = .ok (.ifCond .ne 6, 3) := by decide +kernel
theorem dX5_size_25 : decode cX5_size 25 = .ok (.bipush (-2), 2) := by decide +kernel
theorem dX5_size_27 : decode cX5_size 27 = .ok (.ireturn, 1) := by decide +kernel
theorem dX5_out_0 : decode cX5_out 0 = .ok (.iload_n 1, 1) := by decide +kernel
theorem dX5_out_1 : decode cX5_out 1 = .ok (.ifCond .lt 11, 3) := by decide +kernel
theorem dX5_out_4 : decode cX5_out 4 = .ok (.iload_n 1, 1) := by decide +kernel
theorem dX5_out_5 : decode cX5_out 5 = .ok (.aload_n 0, 1) := by decide +kernel
theorem dX5_out_6 : decode cX5_out 6 = .ok (.getfield 68, 3) := by decide +kernel
theorem dX5_out_9 : decode cX5_out 9 = .ok (.if_icmp .lt 7, 3) := by decide +kernel
theorem dX5_out_12 : decode cX5_out 12 = .ok (.iconst (-1), 1) := by decide +kernel
theorem dX5_out_13 : decode cX5_out 13 = .ok (.goto 9, 3) := by decide +kernel
theorem dX5_out_22 : decode cX5_out 22 = .ok (.ireturn, 1) := by decide +kernel
set_option maxRecDepth 20000 in
theorem ggX5_check_X5_isForm : GoodIn wsX5_check wsX5_isForm := goodIn_r _ [8] (by decide +kernel) (by decide +kernel)
set_option maxRecDepth 20000 in
theorem gX5_check_X5_isForm : GoodIn wsX5_check (va_wsS RX5 162 yX5_isForm wsX5_isForm) := goodIn_app (goodIn_of _ (by decide +kernel)) ggX5_check_X5_isForm
theorem dX5_check_0 : decode cX5_check 0 = .ok (.iload_n 1, 1) := by decide +kernel
theorem dX5_check_1 : decode cX5_check 1 = .ok (.invokestatic 162, 3) := by decide +kernel
theorem dX5_check_4 : decode cX5_check 4 = .ok (.ifCond .ne 5, 3) := by decide +kernel
theorem dX5_check_7 : decode cX5_check 7 = .ok (.iconst (-1), 1) := by decide +kernel
theorem dX5_check_8 : decode cX5_check 8 = .ok (.ireturn, 1) := by decide +kernel
theorem dX5_check_9 : decode cX5_check 9 = .ok (.iconst 0, 1) := by decide +kernel
theorem dX5_check_10 : decode cX5_check 10 = .ok (.istore_n 2, 1) := by decide +kernel
theorem dX5_check_11 : decode cX5_check 11 = .ok (.iload_n 2, 1) := by decide +kernel
theorem dX5_check_12 : decode cX5_check 12 = .ok (.aload_n 0, 1) := by decide +kernel
theorem dX5_check_13 : decode cX5_check 13 = .ok (.getfield 68, 3) := by decide +kernel
theorem dX5_check_16 : decode cX5_check 16 = .ok (.if_icmp .ge 21, 3) := by decide +kernel
theorem dX5_check_37 : decode cX5_check 37 = .ok (.iconst 0, 1) := by decide +kernel
theorem dX5_check_38 : decode cX5_check 38 = .ok (.istore_n 2, 1) := by decide +kernel
theorem dX5_check_39 : decode cX5_check 39 = .ok (.iload_n 2, 1) := by decide +kernel
theorem dX5_check_40 : decode cX5_check 40 = .ok (.aload_n 0, 1) := by decide +kernel
theorem dX5_check_41 : decode cX5_check 41 = .ok (.getfield 68, 3) := by decide +kernel
theorem dX5_check_44 : decode cX5_check 44 = .ok (.if_icmp .ge 30, 3) := by decide +kernel
theorem dX5_check_74 : decode cX5_check 74 = .ok (.bipush (-2), 2) := by decide +kernel
theorem dX5_check_76 : decode cX5_check 76 = .ok (.ireturn, 1) := by decide +kernel
set_option maxRecDepth 20000 in
theorem ggX5_order_X5_isStream : GoodIn wsX5_order wsX5_isStream := goodIn_r _ [7] (by decide +kernel) (by decide +kernel)
set_option maxRecDepth 20000 in
theorem gX5_order_X5_isStream : GoodIn wsX5_order (va_wsS RX5 134 yX5_isStream wsX5_isStream) := goodIn_app (goodIn_of _ (by decide +kernel)) ggX5_order_X5_isStream
theorem dX5_order_0 : decode cX5_order 0 = .ok (.iload_n 1, 1) := by decide +kernel
theorem dX5_order_1 : decode cX5_order 1 = .ok (.invokestatic 134, 3) := by decide +kernel
theorem dX5_order_4 : decode cX5_order 4 = .ok (.ifCond .eq 19, 3) := by decide +kernel
theorem dX5_order_7 : decode cX5_order 7 = .ok (.iload_n 2, 1) := by decide +kernel
theorem dX5_order_8 : decode cX5_order 8 = .ok (.invokestatic 134, 3) := by decide +kernel
theorem dX5_order_11 : decode cX5_order 11 = .ok (.ifCond .eq 12, 3) := by decide +kernel
theorem dX5_order_14 : decode cX5_order 14 = .ok (.iload_n 3, 1) := by decide +kernel
theorem dX5_order_15 : decode cX5_order 15 = .ok (.ifCond .lt 8, 3) := by decide +kernel
theorem dX5_order_18 : decode cX5_order 18 = .ok (.iload_n 3, 1) := by decide +kernel
theorem dX5_order_19 : decode cX5_order 19 = .ok (.iconst 2, 1) := by decide +kernel
theorem dX5_order_20 : decode cX5_order 20 = .ok (.if_icmp .le 5, 3) := by decide +kernel
theorem dX5_order_23 : decode cX5_order 23 = .ok (.iconst (-1), 1) := by decide +kernel
theorem dX5_order_24 : decode cX5_order 24 = .ok (.ireturn, 1) := by decide +kernel
theorem dX5_order_25 : decode cX5_order 25 = .ok (.aload_n 0, 1) := by decide +kernel
theorem dX5_order_26 : decode cX5_order 26 = .ok (.getfield 7, 3) := by decide +kernel
theorem dX5_order_29 : decode cX5_order 29 = .ok (.iload_n 1, 1) := by decide +kernel
theorem dX5_order_30 : decode cX5_order 30 = .ok (.baload, 1) := by decide +kernel
theorem dX5_order_31 : decode cX5_order 31 = .ok (.ifCond .eq 12, 3) := by decide +kernel
theorem dX5_order_43 : decode cX5_order 43 = .ok (.bipush (-2), 2) := by decide +kernel
theorem dX5_order_45 : decode cX5_order 45 = .ok (.ireturn, 1) := by decide +kernel
set_option maxRecDepth 20000 in
theorem ggX5_among_X5_isStream : GoodIn wsX5_among wsX5_isStream := goodIn_r _ [7] (by decide +kernel) (by decide +kernel)
set_option maxRecDepth 20000 in
theorem gX5_among_X5_isStream : GoodIn wsX5_among (va_wsS RX5 134 yX5_isStream wsX5_isStream) := goodIn_app (goodIn_of _ (by decide +kernel)) ggX5_among_X5_isStream
theorem dX5_among_0 : decode cX5_among 0 = .ok (.iload_n 1, 1) := by decide +kernel
theorem dX5_among_1 : decode cX5_among 1 = .ok (.invokestatic 134, 3) := by decide +kernel
theorem dX5_among_4 : decode cX5_among 4 = .ok (.ifCond .ne 5, 3) := by decide +kernel
theorem dX5_among_7 : decode cX5_among 7 = .ok (.iconst (-1), 1) := by decide +kernel
theorem dX5_among_8 : decode cX5_among 8 = .ok (.ireturn, 1) := by decide +kernel
theorem dX5_among_9 : decode cX5_among 9 = .ok (.aload_n 0, 1) := by decide +kernel
theorem dX5_among_10 : decode cX5_among 10 = .ok (.getfield 7, 3) := by decide +kernel
theorem dX5_among_13 : decode cX5_among 13 = .ok (.iload_n 1, 1) := by decide +kernel
theorem dX5_among_14 : decode cX5_among 14 = .ok (.baload, 1) := by decide +kernel
theorem dX5_among_15 : decode cX5_among 15 = .ok (.ifCond .ne 6, 3) := by decide +kernel
theorem dX5_among_18 : decode cX5_among 18 = .ok (.bipush (-2), 2) := by decide +kernel
theorem dX5_among_20 : decode cX5_among 20 = .ok (.ireturn, 1) := by decide +kernel
end
section
/-- a compare of two ints, said of their numbers -/
theorem zz_lt {x y : Int32} {a b : Int} (hx : x.toInt = a) (hy : y.toInt = b) (h : x < y) : a < b := by rw [← hx, ← hy]; exact Int32.lt_iff_toInt_lt.mp h
theorem zz_le {x y : Int32} {a b : Int} (hx : x.toInt = a) (hy : y.toInt = b) (h : x ≤ y) : a ≤ b := by rw [← hx, ← hy]; exact Int32.le_iff_toInt_le.mp h
theorem zz_nlt {x y : Int32} {a b : Int} (hx : x.toInt = a) (hy : y.toInt = b) (h : ¬ x < y) : a ≥ b := by
  have h2 : ¬ x.toInt < y.toInt := fun q => h (Int32.lt_iff_toInt_lt.mpr q)
  omega
theorem zz_nle {x y : Int32} {a b : Int} (hx : x.toInt = a) (hy : y.toInt = b) (h : ¬ x ≤ y) : a > b := by
  have h2 : ¬ x.toInt ≤ y.toInt := fun q => h (Int32.le_iff_toInt_le.mpr q)
  omega
theorem zz_eq {x y : Int32} {a b : Int} (hx : x.toInt = a) (hy : y.toInt = b) (h : x = y) : a = b := by rw [← hx, ← hy, h]
theorem zz_neq {x y : Int32} {a b : Int} (hx : x.toInt = a) (hy : y.toInt = b) (h : ¬ x = y) : a ≠ b := by
  intro q
  exact h (Int32.toInt_inj.mp (by rw [hx, hy, q]))

def an_put (s n : Int32) : Int32 := if 0 ≤ s.toInt ∧ s.toInt < 4 ∧ 1 ≤ n.toInt ∧ n.toInt ≤ 8 then -2 else -1
def an_pour (s i n : Int32) : Int32 := if 0 ≤ s.toInt ∧ s.toInt < 4 ∧ 0 ≤ i.toInt ∧ i.toInt ≤ 0 ∧ 0 ≤ n.toInt then -2 else -1
def an_end (s : Int32) : Int32 := if 0 ≤ s.toInt ∧ s.toInt < 4 then -2 else -1
def an_about (s w : Int32) : Int32 := if 0 ≤ s.toInt ∧ s.toInt < 4 ∧ 0 ≤ w.toInt ∧ w.toInt ≤ 8 then -2 else -1
def an_write (s f : Int32) : Int32 := if 0 ≤ s.toInt ∧ s.toInt < 4 ∧ 0 ≤ f.toInt ∧ f.toInt ≤ 5 then -2 else -1
def an_check (f : Int32) : Int32 := if 0 ≤ f.toInt ∧ f.toInt ≤ 5 then -2 else -1
def an_order (s z w : Int32) : Int32 := if 0 ≤ s.toInt ∧ s.toInt < 4 ∧ 0 ≤ z.toInt ∧ z.toInt < 4 ∧ 0 ≤ w.toInt ∧ w.toInt ≤ 2 then -2 else -1
def an_open (s f p : Int32) : Prop := 0 ≤ s.toInt ∧ s.toInt < 4 ∧ 0 ≤ f.toInt ∧ f.toInt ≤ 6 ∧ 0 ≤ p.toInt ∧ p.toInt ≤ 2
end
section
set_option maxHeartbeats 4000000 in
set_option maxRecDepth 100000 in
/-- isStream: 0 .. 3 -/
theorem kX4_isStream (l : Launch) (dC : Nat → ClassId) (dI : Nat → Nat → Nat) (h0 h1 h2 h4 : Nat) (kS : ClassId) (p0 : Int32) : Met l yX4_isStream wsX4_isStream ({ frames := 0, cells := 0, slots := 0, locals := 0 } : Room) (va_Pc [.ref h0, .int p0] (fun U => va_P (dC, dI) vwCl [(h0, .inr (3, [.ref h1, .ref h2, .ref h4])), (h1, .inl (kS, 4, .inr (.inr (.inr (.inr (fun _ => none))))))] U.heap ∧ va_K (dC, dI) vwCl [(kS, .object "SignForms$Stream")] U)) (vp_Si (fun r => (r = 1 ∧ (0 ≤ p0.toInt ∧ p0.toInt < 4)) ∨ (r = 0 ∧ ¬ (0 ≤ p0.toInt ∧ p0.toInt < 4)))) 0 0 (fun _ => False) := by
  refine Met.ofW (cc := cX4_isStream) (maxL := 2) (ret := (some .boolean)) (by decide) rfl ?_
  intro p e s m args below meth c s₁ B hml hv
  obtain ⟨rfl, hP, hK⟩ := hv
  have hx := B.exec
  have hb := B.bytes
  have hr := B.returns
  have hts := atoms_spec (ws := wsX4_isStream) B.pre
  have hown : s.vm.findClass RX4 = some m.cls := findClass_of_methodNamed B.named
  have hlocks := B.notSynchronized
  have hl := lv_entry ([.ref h0, .int p0]) (n := 2) (Nat.le_of_ble_eq_true rfl)
  rw [lg_entry_eq]
  generalize (lg_sl ([.ref h0, .int p0]) ++ List.replicate (2 - (lg_sl ([.ref h0, .int p0])).length) Slot.unset).toArray = ls at hl ⊢
  have hl : lv_has ls 2 [(0, .ref h0), (1, .int p0)] := hl
  refine lv_iload_n hx hb dX4_isStream_0 rfl (lv_at hl 1 rfl) ?_
  refine lv_if_lt (tgt := 17) hx hb dX4_isStream_1 (by decide) (fun c_1 => ?_) (fun c_1 => ?_)
  · have zc_1 : p0.toInt < (0 : Int) := zz_lt rfl (by decide) c_1
    refine lv_iconst (v := 0) hx hb dX4_isStream_17 (by decide) ?_
    exact W.zret (v := 0) hx hb hr rfl (fun t ht hW => ⟨0, rfl, Or.inr ⟨rfl, by omega⟩, ht⟩) (fun q h => by cases h) dX4_isStream_18
  · have zc_1 : p0.toInt ≥ (0 : Int) := zz_nlt rfl (by decide) c_1
    refine lv_iload_n hx hb dX4_isStream_4 rfl (lv_at hl 1 rfl) ?_
    refine lv_aload_n hx hb dX4_isStream_5 rfl (lv_at hl 0 rfl) ?_
    refine va_get (D := (dC, dI)) (ci := 3) (v := .ref h1) (C := RX4) (T := TX4) (N := 3) hx hb hts (by decide +kernel) hown hK hP 0 rfl rfl 0 (by decide) (hts (.fieldLink RX4 11 "SignForms" "streams" "[LSignForms$Stream;") (by decide +kernel)) (fun _ h9 => h9) rfl dX4_isStream_6 ?_
    refine va_alen (v := 4) hx hb hK hP 1 0 rfl rfl (by decide) dX4_isStream_9 ?_
    refine lv_icmp_ge (tgt := 17) hx hb dX4_isStream_10 (by decide) (fun c_2 => ?_) (fun c_2 => ?_)
    · have zc_2 : (4 : Int) ≤ p0.toInt := zz_le (by decide) rfl c_2
      refine lv_iconst (v := 0) hx hb dX4_isStream_17 (by decide) ?_
      exact W.zret (v := 0) hx hb hr rfl (fun t ht hW => ⟨0, rfl, Or.inr ⟨rfl, by omega⟩, ht⟩) (fun q h => by cases h) dX4_isStream_18
    · have zc_2 : (4 : Int) > p0.toInt := zz_nle (by decide) rfl c_2
      refine lv_iconst (v := 1) hx hb dX4_isStream_13 (by decide) ?_
      refine lv_goto (tgt := 18) hx hb dX4_isStream_14 (by decide) ?_
      exact W.zret (v := 1) hx hb hr rfl (fun t ht hW => ⟨1, rfl, Or.inl ⟨rfl, by omega⟩, ht⟩) (fun q h => by cases h) dX4_isStream_18
set_option maxHeartbeats 4000000 in
set_option maxRecDepth 100000 in
theorem kX4_isWritable (l : Launch) (p0 : Int32) : Met l yX4_isWritable wsX4_isWritable ({ frames := 0, cells := 0, slots := 0, locals := 0 } : Room) (va_Pc [.int p0] (fun _ => True)) (vp_Si (fun r => (r = 1 ∧ (0 ≤ p0.toInt ∧ p0.toInt ≤ 5)) ∨ (r = 0 ∧ ¬ (0 ≤ p0.toInt ∧ p0.toInt ≤ 5)))) 0 0 (fun _ => False) := by
  refine Met.ofW (cc := cX4_isWritable) (maxL := 1) (ret := (some .boolean)) (by decide) rfl ?_
  intro p e s m args below meth c s₁ B hml hv
  obtain ⟨rfl, -⟩ := hv
  have hx := B.exec
  have hb := B.bytes
  have hr := B.returns
  have hts := atoms_spec (ws := wsX4_isWritable) B.pre
  have hown : s.vm.findClass RX4 = some m.cls := findClass_of_methodNamed B.named
  have hlocks := B.notSynchronized
  have hl := lv_entry ([.int p0]) (n := 1) (Nat.le_of_ble_eq_true rfl)
  rw [lg_entry_eq]
  generalize (lg_sl ([.int p0]) ++ List.replicate (1 - (lg_sl ([.int p0])).length) Slot.unset).toArray = ls at hl ⊢
  have hl : lv_has ls 1 [(0, .int p0)] := hl
  refine lv_iload_n hx hb dX4_isWritable_0 rfl (lv_at hl 0 rfl) ?_
  refine lv_if_lt (tgt := 13) hx hb dX4_isWritable_1 (by decide) (fun c_1 => ?_) (fun c_1 => ?_)
  · have zc_1 : p0.toInt < (0 : Int) := zz_lt rfl (by decide) c_1
    refine lv_iconst (v := 0) hx hb dX4_isWritable_13 (by decide) ?_
    exact W.zret (v := 0) hx hb hr rfl (fun t ht hW => ⟨0, rfl, Or.inr ⟨rfl, by omega⟩, ht⟩) (fun q h => by cases h) dX4_isWritable_14
  · have zc_1 : p0.toInt ≥ (0 : Int) := zz_nlt rfl (by decide) c_1
    refine lv_iload_n hx hb dX4_isWritable_4 rfl (lv_at hl 0 rfl) ?_
    refine lv_iconst (v := 5) hx hb dX4_isWritable_5 (by decide) ?_
    refine lv_icmp_gt (tgt := 13) hx hb dX4_isWritable_6 (by decide) (fun c_2 => ?_) (fun c_2 => ?_)
    · have zc_2 : (5 : Int) < p0.toInt := zz_lt (by decide) rfl c_2
      refine lv_iconst (v := 0) hx hb dX4_isWritable_13 (by decide) ?_
      exact W.zret (v := 0) hx hb hr rfl (fun t ht hW => ⟨0, rfl, Or.inr ⟨rfl, by omega⟩, ht⟩) (fun q h => by cases h) dX4_isWritable_14
    · have zc_2 : (5 : Int) ≥ p0.toInt := zz_nlt (by decide) rfl c_2
      refine lv_iconst (v := 1) hx hb dX4_isWritable_9 (by decide) ?_
      refine lv_goto (tgt := 14) hx hb dX4_isWritable_10 (by decide) ?_
      exact W.zret (v := 1) hx hb hr rfl (fun t ht hW => ⟨1, rfl, Or.inl ⟨rfl, by omega⟩, ht⟩) (fun q h => by cases h) dX4_isWritable_14
set_option maxHeartbeats 4000000 in
set_option maxRecDepth 100000 in
theorem kX4_openStream (l : Launch) (dC : Nat → ClassId) (dI : Nat → Nat → Nat) (h0 h1 h2 h4 : Nat) (kS : ClassId) (p0 : Int32) : Met l yX4_openStream wsX4_openStream ({ frames := 1, cells := 0, slots := 0, locals := 21 } : Room) (va_Pc [.ref h0, .int p0] (fun U => va_P (dC, dI) vwCl [(h0, .inr (3, [.ref h1, .ref h2, .ref h4])), (h1, .inl (kS, 4, .inr (.inr (.inr (.inr (fun _ => none))))))] U.heap ∧ va_K (dC, dI) vwCl [(kS, .object "SignForms$Stream")] U)) (va_Sq (fun r => r = none)) 0 0 (fun _ => False) := by
  refine Met.ofW (cc := cX4_openStream) (maxL := 2) (ret := (some (.object "SignForms$Stream"))) (by decide) rfl ?_
  intro p e s m args below meth c s₁ B hml hv
  obtain ⟨rfl, hP, hK⟩ := hv
  have hx := B.exec
  have hb := B.bytes
  have hr := B.returns
  have hts := atoms_spec (ws := wsX4_openStream) B.pre
  have hown : s.vm.findClass RX4 = some m.cls := findClass_of_methodNamed B.named
  have hlocks := B.notSynchronized
  have hl := lv_entry ([.ref h0, .int p0]) (n := 2) (Nat.le_of_ble_eq_true rfl)
  rw [lg_entry_eq]
  generalize (lg_sl ([.ref h0, .int p0]) ++ List.replicate (2 - (lg_sl ([.ref h0, .int p0])).length) Slot.unset).toArray = ls at hl ⊢
  have hl : lv_has ls 2 [(0, .ref h0), (1, .int p0)] := hl
  refine lv_aload_n hx hb dX4_openStream_0 rfl (lv_at hl 0 rfl) ?_
  refine lv_iload_n hx hb dX4_openStream_1 rfl (lv_at hl 1 rfl) ?_
  have hPc := hP.sub (ws' := [(h0, .inr (3, [.ref h1, .ref h2, .ref h4])), (h1, .inl (kS, 4, .inr (.inr (.inr (.inr (fun _ => none))))))]) [0, 1] rfl
  have hKc := hK.sub (tys' := [(kS, .object "SignForms$Stream")]) [0] rfl
  refine vp_callSi (W.runV (As := [.int p0]) (rest := []) ⟨hx, hb, hml, hown, hts⟩ (kX4_isStream l dC dI h0 h1 h2 h4 kS p0) (cwV 1 hts gX4_openStream_X4_isStream rfl rfl rfl (by decide +kernel) ⟨Nat.le_of_ble_eq_true rfl, Nat.le_of_ble_eq_true rfl⟩) ⟨fun a U g mk q => by obtain ⟨q0, qP, qK⟩ := q; exact ⟨q0, qP, va_K.moved (u := U) (U := U.calling g mk a) (Vm.Alike.refl U.vm) qK⟩, va_recv hKc hPc (ci := 3) (q0 := 0) rfl rfl, fun U hU hW => ⟨rfl, by rw [hU]; exact hPc, va_K.moved hW.alike hKc⟩⟩ rfl rfl hl.1 rfl (lv_room (Nat.le_of_ble_eq_true rfl)) dX4_openStream_2 ⟨Nat.le_of_ble_eq_true rfl, Nat.le_of_ble_eq_true rfl⟩) (fun r_1 hwr_1 => ?_)
  rcases hwr_1 with ⟨rfl, hwr_1⟩ | ⟨rfl, hwr_1⟩
  · refine lv_if_eq (tgt := 17) hx hb dX4_openStream_5 (by decide) (fun c_2 => False.elim (by revert c_2; decide)) (fun _ => ?_)
    refine lv_aload_n hx hb dX4_openStream_8 rfl (lv_at hl 0 rfl) ?_
    refine va_get (D := (dC, dI)) (ci := 3) (v := .ref h1) (C := RX4) (T := TX4) (N := 3) hx hb hts (by decide +kernel) hown hK hP 0 rfl rfl 0 (by decide) (hts (.fieldLink RX4 11 "SignForms" "streams" "[LSignForms$Stream;") (by decide +kernel)) (fun _ h9 => h9) rfl dX4_openStream_9 ?_
    refine lv_iload_n hx hb dX4_openStream_12 rfl (lv_at hl 1 rfl) ?_
    refine va_aldq hx hb hK hP 1 0 rfl rfl (vp_in_iff.mpr (by omega)) dX4_openStream_13 ?_
    refine W.eq (g2 := F0 m 14 ls [.null]) rfl ?_
    refine lv_goto (tgt := 18) hx hb dX4_openStream_14 (by decide) ?_
    exact W.aret (v := .null) hx hb hr (Or.inl ⟨_, rfl⟩) (Or.inl rfl) (fun t ht hW => ⟨none, rfl, rfl, ht⟩) (fun q h => by cases h) dX4_openStream_18
  · refine lv_if_eq (tgt := 17) hx hb dX4_openStream_5 (by decide) (fun _ => ?_) (fun c_3 => False.elim (by revert c_3; decide))
    refine lv_null hx hb dX4_openStream_17 ?_
    exact W.aret (v := .null) hx hb hr (Or.inl ⟨_, rfl⟩) (Or.inl rfl) (fun t ht hW => ⟨none, rfl, rfl, ht⟩) (fun q h => by cases h) dX4_openStream_18
set_option maxHeartbeats 4000000 in
set_option maxRecDepth 100000 in
theorem kX1_byteAt (l : Launch) (dC : Nat → ClassId) (dI : Nat → Nat → Nat) (h2 h3 : Nat) (p0 : Int32) : Met l yX1_byteAt wsX1_byteAt ({ frames := 0, cells := 0, slots := 0, locals := 0 } : Room) (va_Pc [.ref h2, .int p0] (fun U => va_P (dC, dI) vwCl [(h2, .inr (0, [.ref h3, .int 0]))] U.heap ∧ va_K (dC, dI) vwCl [] U)) (vp_Si (fun r => r = -1)) 0 0 (fun _ => False) := by
  refine Met.ofW (cc := cX1_byteAt) (maxL := 2) (ret := (some .int)) (by decide) rfl ?_
  intro p e s m args below meth c s₁ B hml hv
  obtain ⟨rfl, hP, hK⟩ := hv
  have hx := B.exec
  have hb := B.bytes
  have hr := B.returns
  have hts := atoms_spec (ws := wsX1_byteAt) B.pre
  have hown : s.vm.findClass RX1 = some m.cls := findClass_of_methodNamed B.named
  have hlocks := B.notSynchronized
  have hl := lv_entry ([.ref h2, .int p0]) (n := 2) (Nat.le_of_ble_eq_true rfl)
  rw [lg_entry_eq]
  generalize (lg_sl ([.ref h2, .int p0]) ++ List.replicate (2 - (lg_sl ([.ref h2, .int p0])).length) Slot.unset).toArray = ls at hl ⊢
  have hl : lv_has ls 2 [(0, .ref h2), (1, .int p0)] := hl
  refine lv_iload_n hx hb dX1_byteAt_0 rfl (lv_at hl 1 rfl) ?_
  refine lv_if_lt (tgt := 21) hx hb dX1_byteAt_1 (by decide) (fun c_1 => ?_) (fun c_1 => ?_)
  · have zc_1 : p0.toInt < (0 : Int) := zz_lt rfl (by decide) c_1
    refine lv_iconst (v := (-1)) hx hb dX1_byteAt_21 (by decide) ?_
    exact W.iret (v := (-1)) hx hb hr (fun t ht hW => ⟨(-1), rfl, rfl, ht⟩) (fun q h => by cases h) dX1_byteAt_22
  · have zc_1 : p0.toInt ≥ (0 : Int) := zz_nlt rfl (by decide) c_1
    refine lv_iload_n hx hb dX1_byteAt_4 rfl (lv_at hl 1 rfl) ?_
    refine lv_aload_n hx hb dX1_byteAt_5 rfl (lv_at hl 0 rfl) ?_
    refine va_get (D := (dC, dI)) (ci := 0) (v := .int 0) (C := RX1) (T := TX1) (N := 2) hx hb hts (by decide +kernel) hown hK hP 0 rfl rfl 1 (by decide) (hts (.fieldLink RX1 15 "SignForms$OutRow" "count" "I") (by decide +kernel)) (fun _ h9 => h9) rfl dX1_byteAt_6 ?_
    refine lv_icmp_ge (tgt := 21) hx hb dX1_byteAt_9 (by decide) (fun c_2 => ?_) (fun c_2 => ?_)
    · have zc_2 : (0 : Int) ≤ p0.toInt := zz_le (by decide) rfl c_2
      refine lv_iconst (v := (-1)) hx hb dX1_byteAt_21 (by decide) ?_
      exact W.iret (v := (-1)) hx hb hr (fun t ht hW => ⟨(-1), rfl, rfl, ht⟩) (fun q h => by cases h) dX1_byteAt_22
    · have zc_2 : (0 : Int) > p0.toInt := zz_nle (by decide) rfl c_2
      exfalso
      omega
set_option maxHeartbeats 4000000 in
set_option maxRecDepth 100000 in
theorem kX4_put (l : Launch) (dC : Nat → ClassId) (dI : Nat → Nat → Nat) (h0 h1 h2 h4 : Nat) (kS : ClassId) (p0 : Int32) (w0 : Int64) (p1 : Int32) : Met l yX4_put wsX4_put ({ frames := 1, cells := 0, slots := 0, locals := 21 } : Room) (va_Pc [.ref h0, .int p0, .long w0, .int p1] (fun U => va_P (dC, dI) vwCl [(h0, .inr (3, [.ref h1, .ref h2, .ref h4])), (h1, .inl (kS, 4, .inr (.inr (.inr (.inr (fun _ => none))))))] U.heap ∧ va_K (dC, dI) vwCl [(kS, .object "SignForms$Stream")] U)) (vp_Si (fun r => r = an_put p0 p1)) 0 0 (fun _ => False) := by
  refine Met.ofW (cc := cX4_put) (maxL := 7) (ret := (some .int)) (by decide) rfl ?_
  intro p e s m args below meth c s₁ B hml hv
  obtain ⟨rfl, hP, hK⟩ := hv
  have hx := B.exec
  have hb := B.bytes
  have hr := B.returns
  have hts := atoms_spec (ws := wsX4_put) B.pre
  have hown : s.vm.findClass RX4 = some m.cls := findClass_of_methodNamed B.named
  have hlocks := B.notSynchronized
  have hl := lv_entry ([.ref h0, .int p0, .long w0, .int p1]) (n := 7) (Nat.le_of_ble_eq_true rfl)
  rw [lg_entry_eq]
  generalize (lg_sl ([.ref h0, .int p0, .long w0, .int p1]) ++ List.replicate (7 - (lg_sl ([.ref h0, .int p0, .long w0, .int p1])).length) Slot.unset).toArray = ls at hl ⊢
  have hl : lv_has ls 7 [(0, .ref h0), (1, .int p0), (2, .long w0), (4, .int p1)] := hl
  refine lv_aload_n hx hb dX4_put_0 rfl (lv_at hl 0 rfl) ?_
  refine lv_iload_n hx hb dX4_put_1 rfl (lv_at hl 1 rfl) ?_
  have hPc := hP.sub (ws' := [(h0, .inr (3, [.ref h1, .ref h2, .ref h4])), (h1, .inl (kS, 4, .inr (.inr (.inr (.inr (fun _ => none))))))]) [0, 1] rfl
  have hKc := hK.sub (tys' := [(kS, .object "SignForms$Stream")]) [0] rfl
  refine vp_callSi (W.runV (As := [.int p0]) (rest := []) ⟨hx, hb, hml, hown, hts⟩ (kX4_isStream l dC dI h0 h1 h2 h4 kS p0) (cwV 1 hts gX4_put_X4_isStream rfl rfl rfl (by decide +kernel) ⟨Nat.le_of_ble_eq_true rfl, Nat.le_of_ble_eq_true rfl⟩) ⟨fun a U g mk q => by obtain ⟨q0, qP, qK⟩ := q; exact ⟨q0, qP, va_K.moved (u := U) (U := U.calling g mk a) (Vm.Alike.refl U.vm) qK⟩, va_recv hKc hPc (ci := 3) (q0 := 0) rfl rfl, fun U hU hW => ⟨rfl, by rw [hU]; exact hPc, va_K.moved hW.alike hKc⟩⟩ rfl rfl hl.1 rfl (lv_room (Nat.le_of_ble_eq_true rfl)) dX4_put_2 ⟨Nat.le_of_ble_eq_true rfl, Nat.le_of_ble_eq_true rfl⟩) (fun r_1 hwr_1 => ?_)
  rcases hwr_1 with ⟨rfl, hwr_1⟩ | ⟨rfl, hwr_1⟩
  · refine lv_if_eq (tgt := 21) hx hb dX4_put_5 (by decide) (fun c_2 => False.elim (by revert c_2; decide)) (fun _ => ?_)
    refine lv_iload hx hb dX4_put_8 (lv_at hl 3 rfl) ?_
    refine lv_iconst (v := 1) hx hb dX4_put_10 (by decide) ?_
    refine lv_icmp_lt (tgt := 21) hx hb dX4_put_11 (by decide) (fun c_3 => ?_) (fun c_3 => ?_)
    · have zc_3 : p1.toInt < (1 : Int) := zz_lt rfl (by decide) c_3
      refine lv_iconst (v := (-1)) hx hb dX4_put_21 (by decide) ?_
      exact W.iret (v := (-1)) hx hb hr (fun t ht hW => ⟨(-1), rfl, by unfold an_put; first | rw [if_pos (by omega)] | rw [if_neg (by omega)], ht⟩) (fun q h => by cases h) dX4_put_22
    · have zc_3 : p1.toInt ≥ (1 : Int) := zz_nlt rfl (by decide) c_3
      refine lv_iload hx hb dX4_put_14 (lv_at hl 3 rfl) ?_
      refine lv_bipush (v := 8) hx hb dX4_put_16 (by decide) ?_
      refine lv_icmp_le (tgt := 23) hx hb dX4_put_18 (by decide) (fun c_4 => ?_) (fun c_4 => ?_)
      · have zc_4 : p1.toInt ≤ (8 : Int) := zz_le rfl (by decide) c_4
        refine lv_aload_n hx hb dX4_put_23 rfl (lv_at hl 0 rfl) ?_
        refine va_get (D := (dC, dI)) (ci := 3) (v := .ref h1) (C := RX4) (T := TX4) (N := 3) hx hb hts (by decide +kernel) hown hK hP 0 rfl rfl 0 (by decide) (hts (.fieldLink RX4 11 "SignForms" "streams" "[LSignForms$Stream;") (by decide +kernel)) (fun _ h9 => h9) rfl dX4_put_24 ?_
        refine lv_iload_n hx hb dX4_put_27 rfl (lv_at hl 1 rfl) ?_
        refine va_aldq hx hb hK hP 1 0 rfl rfl (vp_in_iff.mpr (by omega)) dX4_put_28 ?_
        refine W.eq (g2 := F0 m 29 ls [.null]) rfl ?_
        refine lv_astoreN (lv' := [(5, .null), (0, .ref h0), (1, .int p0), (2, .long w0), (4, .int p1)]) hx hb dX4_put_29 hl (by decide) rfl (fun ls hl => ?_)
        refine lv_aloadN hx hb dX4_put_31 (lv_at hl 0 rfl) ?_
        refine lv_ifnullN (tgt := 44) hx hb dX4_put_33 (by decide) ?_
        refine lv_bipush (v := (-2)) hx hb dX4_put_44 (by decide) ?_
        exact W.iret (v := (-2)) hx hb hr (fun t ht hW => ⟨(-2), rfl, by unfold an_put; first | rw [if_pos (by omega)] | rw [if_neg (by omega)], ht⟩) (fun q h => by cases h) dX4_put_46
      · have zc_4 : p1.toInt > (8 : Int) := zz_nle rfl (by decide) c_4
        refine lv_iconst (v := (-1)) hx hb dX4_put_21 (by decide) ?_
        exact W.iret (v := (-1)) hx hb hr (fun t ht hW => ⟨(-1), rfl, by unfold an_put; first | rw [if_pos (by omega)] | rw [if_neg (by omega)], ht⟩) (fun q h => by cases h) dX4_put_22
  · refine lv_if_eq (tgt := 21) hx hb dX4_put_5 (by decide) (fun _ => ?_) (fun c_5 => False.elim (by revert c_5; decide))
    refine lv_iconst (v := (-1)) hx hb dX4_put_21 (by decide) ?_
    exact W.iret (v := (-1)) hx hb hr (fun t ht hW => ⟨(-1), rfl, by unfold an_put; first | rw [if_pos (by omega)] | rw [if_neg (by omega)], ht⟩) (fun q h => by cases h) dX4_put_22
set_option maxHeartbeats 4000000 in
set_option maxRecDepth 100000 in
theorem kX4_pour (l : Launch) (dC : Nat → ClassId) (dI : Nat → Nat → Nat) (h0 h1 h2 h3 h4 : Nat) (kS : ClassId) (p0 : Int32) (p1 : Int32) (p2 : Int32) : Met l yX4_pour wsX4_pour ({ frames := 1, cells := 0, slots := 0, locals := 21 } : Room) (va_Pc [.ref h0, .int p0, .int p1, .int p2] (fun U => va_P (dC, dI) vwCl [(h0, .inr (3, [.ref h1, .ref h2, .ref h4])), (h1, .inl (kS, 4, .inr (.inr (.inr (.inr (fun _ => none)))))), (h2, .inr (0, [.ref h3, .int 0]))] U.heap ∧ va_K (dC, dI) vwCl [(kS, .object "SignForms$Stream")] U)) (vp_Si (fun r => r = an_pour p0 p1 p2)) 0 0 (fun _ => False) := by
  refine Met.ofW (cc := cX4_pour) (maxL := 7) (ret := (some .int)) (by decide) rfl ?_
  intro p e s m args below meth c s₁ B hml hv
  obtain ⟨rfl, hP, hK⟩ := hv
  have hx := B.exec
  have hb := B.bytes
  have hr := B.returns
  have hts := atoms_spec (ws := wsX4_pour) B.pre
  have hown : s.vm.findClass RX4 = some m.cls := findClass_of_methodNamed B.named
  have hlocks := B.notSynchronized
  have hl := lv_entry ([.ref h0, .int p0, .int p1, .int p2]) (n := 7) (Nat.le_of_ble_eq_true rfl)
  rw [lg_entry_eq]
  generalize (lg_sl ([.ref h0, .int p0, .int p1, .int p2]) ++ List.replicate (7 - (lg_sl ([.ref h0, .int p0, .int p1, .int p2])).length) Slot.unset).toArray = ls at hl ⊢
  have hl : lv_has ls 7 [(0, .ref h0), (1, .int p0), (2, .int p1), (3, .int p2)] := hl
  refine lv_aload_n hx hb dX4_pour_0 rfl (lv_at hl 0 rfl) ?_
  refine lv_iload_n hx hb dX4_pour_1 rfl (lv_at hl 1 rfl) ?_
  have hPc := hP.sub (ws' := [(h0, .inr (3, [.ref h1, .ref h2, .ref h4])), (h1, .inl (kS, 4, .inr (.inr (.inr (.inr (fun _ => none))))))]) [0, 1] rfl
  have hKc := hK.sub (tys' := [(kS, .object "SignForms$Stream")]) [0] rfl
  refine vp_callSi (W.runV (As := [.int p0]) (rest := []) ⟨hx, hb, hml, hown, hts⟩ (kX4_isStream l dC dI h0 h1 h2 h4 kS p0) (cwV 1 hts gX4_pour_X4_isStream rfl rfl rfl (by decide +kernel) ⟨Nat.le_of_ble_eq_true rfl, Nat.le_of_ble_eq_true rfl⟩) ⟨fun a U g mk q => by obtain ⟨q0, qP, qK⟩ := q; exact ⟨q0, qP, va_K.moved (u := U) (U := U.calling g mk a) (Vm.Alike.refl U.vm) qK⟩, va_recv hKc hPc (ci := 3) (q0 := 0) rfl rfl, fun U hU hW => ⟨rfl, by rw [hU]; exact hPc, va_K.moved hW.alike hKc⟩⟩ rfl rfl hl.1 rfl (lv_room (Nat.le_of_ble_eq_true rfl)) dX4_pour_2 ⟨Nat.le_of_ble_eq_true rfl, Nat.le_of_ble_eq_true rfl⟩) (fun r_1 hwr_1 => ?_)
  rcases hwr_1 with ⟨rfl, hwr_1⟩ | ⟨rfl, hwr_1⟩
  · refine lv_if_eq (tgt := 27) hx hb dX4_pour_5 (by decide) (fun c_2 => False.elim (by revert c_2; decide)) (fun _ => ?_)
    refine lv_iload_n hx hb dX4_pour_8 rfl (lv_at hl 2 rfl) ?_
    refine lv_if_lt (tgt := 27) hx hb dX4_pour_9 (by decide) (fun c_3 => ?_) (fun c_3 => ?_)
    · have zc_3 : p1.toInt < (0 : Int) := zz_lt rfl (by decide) c_3
      refine lv_iconst (v := (-1)) hx hb dX4_pour_27 (by decide) ?_
      exact W.iret (v := (-1)) hx hb hr (fun t ht hW => ⟨(-1), rfl, by unfold an_pour; first | rw [if_pos (by omega)] | rw [if_neg (by omega)], ht⟩) (fun q h => by cases h) dX4_pour_28
    · have zc_3 : p1.toInt ≥ (0 : Int) := zz_nlt rfl (by decide) c_3
      refine lv_iload_n hx hb dX4_pour_12 rfl (lv_at hl 2 rfl) ?_
      refine lv_aload_n hx hb dX4_pour_13 rfl (lv_at hl 0 rfl) ?_
      refine va_get (D := (dC, dI)) (ci := 3) (v := .ref h2) (C := RX4) (T := TX4) (N := 3) hx hb hts (by decide +kernel) hown hK hP 0 rfl rfl 1 (by decide) (hts (.fieldLink RX4 18 "SignForms" "outRow" "LSignForms$OutRow;") (by decide +kernel)) (fun _ h9 => h9) rfl dX4_pour_14 ?_
      refine va_get (D := (dC, dI)) (ci := 0) (v := .int 0) (C := RX1) (T := TX1) (N := 2) hx hb hts (by decide +kernel) hown hK hP 2 rfl rfl 1 (by decide) (hts (.fieldLink RX4 56 "SignForms$OutRow" "count" "I") (by decide +kernel)) (fun _ h9 => h9) rfl dX4_pour_17 ?_
      refine lv_icmp_gt (tgt := 27) hx hb dX4_pour_20 (by decide) (fun c_4 => ?_) (fun c_4 => ?_)
      · have zc_4 : (0 : Int) < p1.toInt := zz_lt (by decide) rfl c_4
        refine lv_iconst (v := (-1)) hx hb dX4_pour_27 (by decide) ?_
        exact W.iret (v := (-1)) hx hb hr (fun t ht hW => ⟨(-1), rfl, by unfold an_pour; first | rw [if_pos (by omega)] | rw [if_neg (by omega)], ht⟩) (fun q h => by cases h) dX4_pour_28
      · have zc_4 : (0 : Int) ≥ p1.toInt := zz_nlt (by decide) rfl c_4
        refine lv_iload_n hx hb dX4_pour_23 rfl (lv_at hl 3 rfl) ?_
        refine lv_if_ge (tgt := 29) hx hb dX4_pour_24 (by decide) (fun c_5 => ?_) (fun c_5 => ?_)
        · have zc_5 : (0 : Int) ≤ p2.toInt := zz_le (by decide) rfl c_5
          refine lv_aload_n hx hb dX4_pour_29 rfl (lv_at hl 0 rfl) ?_
          refine va_get (D := (dC, dI)) (ci := 3) (v := .ref h1) (C := RX4) (T := TX4) (N := 3) hx hb hts (by decide +kernel) hown hK hP 0 rfl rfl 0 (by decide) (hts (.fieldLink RX4 11 "SignForms" "streams" "[LSignForms$Stream;") (by decide +kernel)) (fun _ h9 => h9) rfl dX4_pour_30 ?_
          refine lv_iload_n hx hb dX4_pour_33 rfl (lv_at hl 1 rfl) ?_
          refine va_aldq hx hb hK hP 1 0 rfl rfl (vp_in_iff.mpr (by omega)) dX4_pour_34 ?_
          refine W.eq (g2 := F0 m 35 ls [.null]) rfl ?_
          refine lv_astoreN (lv' := [(4, .null), (0, .ref h0), (1, .int p0), (2, .int p1), (3, .int p2)]) hx hb dX4_pour_35 hl (by decide) rfl (fun ls hl => ?_)
          refine lv_aloadN hx hb dX4_pour_37 (lv_at hl 0 rfl) ?_
          refine lv_ifnullN (tgt := 50) hx hb dX4_pour_39 (by decide) ?_
          refine lv_bipush (v := (-2)) hx hb dX4_pour_50 (by decide) ?_
          exact W.iret (v := (-2)) hx hb hr (fun t ht hW => ⟨(-2), rfl, by unfold an_pour; first | rw [if_pos (by omega)] | rw [if_neg (by omega)], ht⟩) (fun q h => by cases h) dX4_pour_52
        · have zc_5 : (0 : Int) > p2.toInt := zz_nle (by decide) rfl c_5
          refine lv_iconst (v := (-1)) hx hb dX4_pour_27 (by decide) ?_
          exact W.iret (v := (-1)) hx hb hr (fun t ht hW => ⟨(-1), rfl, by unfold an_pour; first | rw [if_pos (by omega)] | rw [if_neg (by omega)], ht⟩) (fun q h => by cases h) dX4_pour_28
  · refine lv_if_eq (tgt := 27) hx hb dX4_pour_5 (by decide) (fun _ => ?_) (fun c_6 => False.elim (by revert c_6; decide))
    refine lv_iconst (v := (-1)) hx hb dX4_pour_27 (by decide) ?_
    exact W.iret (v := (-1)) hx hb hr (fun t ht hW => ⟨(-1), rfl, by unfold an_pour; first | rw [if_pos (by omega)] | rw [if_neg (by omega)], ht⟩) (fun q h => by cases h) dX4_pour_28
set_option maxHeartbeats 4000000 in
set_option maxRecDepth 100000 in
theorem kX4_end (l : Launch) (dC : Nat → ClassId) (dI : Nat → Nat → Nat) (h0 h1 h2 h4 : Nat) (kS : ClassId) (p0 : Int32) : Met l yX4_end wsX4_end ({ frames := 1, cells := 0, slots := 0, locals := 21 } : Room) (va_Pc [.ref h0, .int p0] (fun U => va_P (dC, dI) vwCl [(h0, .inr (3, [.ref h1, .ref h2, .ref h4])), (h1, .inl (kS, 4, .inr (.inr (.inr (.inr (fun _ => none))))))] U.heap ∧ va_K (dC, dI) vwCl [(kS, .object "SignForms$Stream")] U)) (vp_Si (fun r => r = an_end p0)) 0 0 (fun _ => False) := by
  refine Met.ofW (cc := cX4_end) (maxL := 3) (ret := (some .int)) (by decide) rfl ?_
  intro p e s m args below meth c s₁ B hml hv
  obtain ⟨rfl, hP, hK⟩ := hv
  have hx := B.exec
  have hb := B.bytes
  have hr := B.returns
  have hts := atoms_spec (ws := wsX4_end) B.pre
  have hown : s.vm.findClass RX4 = some m.cls := findClass_of_methodNamed B.named
  have hlocks := B.notSynchronized
  have hl := lv_entry ([.ref h0, .int p0]) (n := 3) (Nat.le_of_ble_eq_true rfl)
  rw [lg_entry_eq]
  generalize (lg_sl ([.ref h0, .int p0]) ++ List.replicate (3 - (lg_sl ([.ref h0, .int p0])).length) Slot.unset).toArray = ls at hl ⊢
  have hl : lv_has ls 3 [(0, .ref h0), (1, .int p0)] := hl
  refine lv_aload_n hx hb dX4_end_0 rfl (lv_at hl 0 rfl) ?_
  refine lv_iload_n hx hb dX4_end_1 rfl (lv_at hl 1 rfl) ?_
  have hPc := hP.sub (ws' := [(h0, .inr (3, [.ref h1, .ref h2, .ref h4])), (h1, .inl (kS, 4, .inr (.inr (.inr (.inr (fun _ => none))))))]) [0, 1] rfl
  have hKc := hK.sub (tys' := [(kS, .object "SignForms$Stream")]) [0] rfl
  refine vp_callSi (W.runV (As := [.int p0]) (rest := []) ⟨hx, hb, hml, hown, hts⟩ (kX4_isStream l dC dI h0 h1 h2 h4 kS p0) (cwV 1 hts gX4_end_X4_isStream rfl rfl rfl (by decide +kernel) ⟨Nat.le_of_ble_eq_true rfl, Nat.le_of_ble_eq_true rfl⟩) ⟨fun a U g mk q => by obtain ⟨q0, qP, qK⟩ := q; exact ⟨q0, qP, va_K.moved (u := U) (U := U.calling g mk a) (Vm.Alike.refl U.vm) qK⟩, va_recv hKc hPc (ci := 3) (q0 := 0) rfl rfl, fun U hU hW => ⟨rfl, by rw [hU]; exact hPc, va_K.moved hW.alike hKc⟩⟩ rfl rfl hl.1 rfl (lv_room (Nat.le_of_ble_eq_true rfl)) dX4_end_2 ⟨Nat.le_of_ble_eq_true rfl, Nat.le_of_ble_eq_true rfl⟩) (fun r_1 hwr_1 => ?_)
  rcases hwr_1 with ⟨rfl, hwr_1⟩ | ⟨rfl, hwr_1⟩
  · refine lv_if_ne (tgt := 10) hx hb dX4_end_5 (by decide) (fun _ => ?_) (fun c_2 => False.elim (by revert c_2; decide))
    refine lv_aload_n hx hb dX4_end_10 rfl (lv_at hl 0 rfl) ?_
    refine va_get (D := (dC, dI)) (ci := 3) (v := .ref h1) (C := RX4) (T := TX4) (N := 3) hx hb hts (by decide +kernel) hown hK hP 0 rfl rfl 0 (by decide) (hts (.fieldLink RX4 11 "SignForms" "streams" "[LSignForms$Stream;") (by decide +kernel)) (fun _ h9 => h9) rfl dX4_end_11 ?_
    refine lv_iload_n hx hb dX4_end_14 rfl (lv_at hl 1 rfl) ?_
    refine va_aldq hx hb hK hP 1 0 rfl rfl (vp_in_iff.mpr (by omega)) dX4_end_15 ?_
    refine W.eq (g2 := F0 m 16 ls [.null]) rfl ?_
    refine lv_astore_nN (lv' := [(2, .null), (0, .ref h0), (1, .int p0)]) hx hb dX4_end_16 rfl hl (by decide) rfl (fun ls hl => ?_)
    refine lv_aload_nN hx hb dX4_end_17 rfl (lv_at hl 0 rfl) ?_
    refine lv_ifnullN (tgt := 28) hx hb dX4_end_18 (by decide) ?_
    refine lv_bipush (v := (-2)) hx hb dX4_end_28 (by decide) ?_
    exact W.iret (v := (-2)) hx hb hr (fun t ht hW => ⟨(-2), rfl, by unfold an_end; first | rw [if_pos (by omega)] | rw [if_neg (by omega)], ht⟩) (fun q h => by cases h) dX4_end_30
  · refine lv_if_ne (tgt := 10) hx hb dX4_end_5 (by decide) (fun c_3 => False.elim (by revert c_3; decide)) (fun _ => ?_)
    refine lv_iconst (v := (-1)) hx hb dX4_end_8 (by decide) ?_
    exact W.iret (v := (-1)) hx hb hr (fun t ht hW => ⟨(-1), rfl, by unfold an_end; first | rw [if_pos (by omega)] | rw [if_neg (by omega)], ht⟩) (fun q h => by cases h) dX4_end_9
set_option maxHeartbeats 4000000 in
set_option maxRecDepth 100000 in
theorem kX4_about (l : Launch) (dC : Nat → ClassId) (dI : Nat → Nat → Nat) (h0 h1 h2 h4 : Nat) (kS : ClassId) (p0 : Int32) (p1 : Int32) : Met l yX4_about wsX4_about ({ frames := 1, cells := 0, slots := 0, locals := 21 } : Room) (va_Pc [.ref h0, .int p0, .int p1] (fun U => va_P (dC, dI) vwCl [(h0, .inr (3, [.ref h1, .ref h2, .ref h4])), (h1, .inl (kS, 4, .inr (.inr (.inr (.inr (fun _ => none))))))] U.heap ∧ va_K (dC, dI) vwCl [(kS, .object "SignForms$Stream")] U)) (vp_Si (fun r => r = an_about p0 p1)) 0 0 (fun _ => False) := by
  refine Met.ofW (cc := cX4_about) (maxL := 4) (ret := (some .int)) (by decide) rfl ?_
  intro p e s m args below meth c s₁ B hml hv
  obtain ⟨rfl, hP, hK⟩ := hv
  have hx := B.exec
  have hb := B.bytes
  have hr := B.returns
  have hts := atoms_spec (ws := wsX4_about) B.pre
  have hown : s.vm.findClass RX4 = some m.cls := findClass_of_methodNamed B.named
  have hlocks := B.notSynchronized
  have hl := lv_entry ([.ref h0, .int p0, .int p1]) (n := 4) (Nat.le_of_ble_eq_true rfl)
  rw [lg_entry_eq]
  generalize (lg_sl ([.ref h0, .int p0, .int p1]) ++ List.replicate (4 - (lg_sl ([.ref h0, .int p0, .int p1])).length) Slot.unset).toArray = ls at hl ⊢
  have hl : lv_has ls 4 [(0, .ref h0), (1, .int p0), (2, .int p1)] := hl
  refine lv_aload_n hx hb dX4_about_0 rfl (lv_at hl 0 rfl) ?_
  refine lv_iload_n hx hb dX4_about_1 rfl (lv_at hl 1 rfl) ?_
  have hPc := hP.sub (ws' := [(h0, .inr (3, [.ref h1, .ref h2, .ref h4])), (h1, .inl (kS, 4, .inr (.inr (.inr (.inr (fun _ => none))))))]) [0, 1] rfl
  have hKc := hK.sub (tys' := [(kS, .object "SignForms$Stream")]) [0] rfl
  refine vp_callSi (W.runV (As := [.int p0]) (rest := []) ⟨hx, hb, hml, hown, hts⟩ (kX4_isStream l dC dI h0 h1 h2 h4 kS p0) (cwV 1 hts gX4_about_X4_isStream rfl rfl rfl (by decide +kernel) ⟨Nat.le_of_ble_eq_true rfl, Nat.le_of_ble_eq_true rfl⟩) ⟨fun a U g mk q => by obtain ⟨q0, qP, qK⟩ := q; exact ⟨q0, qP, va_K.moved (u := U) (U := U.calling g mk a) (Vm.Alike.refl U.vm) qK⟩, va_recv hKc hPc (ci := 3) (q0 := 0) rfl rfl, fun U hU hW => ⟨rfl, by rw [hU]; exact hPc, va_K.moved hW.alike hKc⟩⟩ rfl rfl hl.1 rfl (lv_room (Nat.le_of_ble_eq_true rfl)) dX4_about_2 ⟨Nat.le_of_ble_eq_true rfl, Nat.le_of_ble_eq_true rfl⟩) (fun r_1 hwr_1 => ?_)
  rcases hwr_1 with ⟨rfl, hwr_1⟩ | ⟨rfl, hwr_1⟩
  · refine lv_if_eq (tgt := 18) hx hb dX4_about_5 (by decide) (fun c_2 => False.elim (by revert c_2; decide)) (fun _ => ?_)
    refine lv_iload_n hx hb dX4_about_8 rfl (lv_at hl 2 rfl) ?_
    refine lv_if_lt (tgt := 18) hx hb dX4_about_9 (by decide) (fun c_3 => ?_) (fun c_3 => ?_)
    · have zc_3 : p1.toInt < (0 : Int) := zz_lt rfl (by decide) c_3
      refine lv_iconst (v := (-1)) hx hb dX4_about_18 (by decide) ?_
      exact W.iret (v := (-1)) hx hb hr (fun t ht hW => ⟨(-1), rfl, by unfold an_about; first | rw [if_pos (by omega)] | rw [if_neg (by omega)], ht⟩) (fun q h => by cases h) dX4_about_19
    · have zc_3 : p1.toInt ≥ (0 : Int) := zz_nlt rfl (by decide) c_3
      refine lv_iload_n hx hb dX4_about_12 rfl (lv_at hl 2 rfl) ?_
      refine lv_bipush (v := 8) hx hb dX4_about_13 (by decide) ?_
      refine lv_icmp_le (tgt := 20) hx hb dX4_about_15 (by decide) (fun c_4 => ?_) (fun c_4 => ?_)
      · have zc_4 : p1.toInt ≤ (8 : Int) := zz_le rfl (by decide) c_4
        refine lv_aload_n hx hb dX4_about_20 rfl (lv_at hl 0 rfl) ?_
        refine va_get (D := (dC, dI)) (ci := 3) (v := .ref h1) (C := RX4) (T := TX4) (N := 3) hx hb hts (by decide +kernel) hown hK hP 0 rfl rfl 0 (by decide) (hts (.fieldLink RX4 11 "SignForms" "streams" "[LSignForms$Stream;") (by decide +kernel)) (fun _ h9 => h9) rfl dX4_about_21 ?_
        refine lv_iload_n hx hb dX4_about_24 rfl (lv_at hl 1 rfl) ?_
        refine va_aldq hx hb hK hP 1 0 rfl rfl (vp_in_iff.mpr (by omega)) dX4_about_25 ?_
        refine W.eq (g2 := F0 m 26 ls [.null]) rfl ?_
        refine lv_astore_nN (lv' := [(3, .null), (0, .ref h0), (1, .int p0), (2, .int p1)]) hx hb dX4_about_26 rfl hl (by decide) rfl (fun ls hl => ?_)
        refine lv_aload_nN hx hb dX4_about_27 rfl (lv_at hl 0 rfl) ?_
        refine lv_ifnonnullN hx hb dX4_about_28 ?_
        refine lv_bipush (v := (-2)) hx hb dX4_about_31 (by decide) ?_
        refine lv_goto (tgt := 41) hx hb dX4_about_33 (by decide) ?_
        exact W.iret (v := (-2)) hx hb hr (fun t ht hW => ⟨(-2), rfl, by unfold an_about; first | rw [if_pos (by omega)] | rw [if_neg (by omega)], ht⟩) (fun q h => by cases h) dX4_about_41
      · have zc_4 : p1.toInt > (8 : Int) := zz_nle rfl (by decide) c_4
        refine lv_iconst (v := (-1)) hx hb dX4_about_18 (by decide) ?_
        exact W.iret (v := (-1)) hx hb hr (fun t ht hW => ⟨(-1), rfl, by unfold an_about; first | rw [if_pos (by omega)] | rw [if_neg (by omega)], ht⟩) (fun q h => by cases h) dX4_about_19
  · refine lv_if_eq (tgt := 18) hx hb dX4_about_5 (by decide) (fun _ => ?_) (fun c_5 => False.elim (by revert c_5; decide))
    refine lv_iconst (v := (-1)) hx hb dX4_about_18 (by decide) ?_
    exact W.iret (v := (-1)) hx hb hr (fun t ht hW => ⟨(-1), rfl, by unfold an_about; first | rw [if_pos (by omega)] | rw [if_neg (by omega)], ht⟩) (fun q h => by cases h) dX4_about_19
set_option maxHeartbeats 4000000 in
set_option maxRecDepth 100000 in
theorem kX4_sign (l : Launch) (dC : Nat → ClassId) (dI : Nat → Nat → Nat) (h0 h1 h2 h4 : Nat) (kS : ClassId) (p0 : Int32) (p1 : Int32) : Met l yX4_sign wsX4_sign ({ frames := 2, cells := 0, slots := 0, locals := 42 } : Room) (va_Pc [.ref h0, .int p0, .int p1] (fun U => va_P (dC, dI) vwCl [(h0, .inr (3, [.ref h1, .ref h2, .ref h4])), (h1, .inl (kS, 4, .inr (.inr (.inr (.inr (fun _ => none))))))] U.heap ∧ va_K (dC, dI) vwCl [(kS, .object "SignForms$Stream")] U)) (vp_Si (fun r => r = -1)) 0 0 (fun _ => False) := by
  refine Met.ofW (cc := cX4_sign) (maxL := 4) (ret := (some .int)) (by decide) rfl ?_
  intro p e s m args below meth c s₁ B hml hv
  obtain ⟨rfl, hP, hK⟩ := hv
  have hx := B.exec
  have hb := B.bytes
  have hr := B.returns
  have hts := atoms_spec (ws := wsX4_sign) B.pre
  have hown : s.vm.findClass RX4 = some m.cls := findClass_of_methodNamed B.named
  have hlocks := B.notSynchronized
  have hl := lv_entry ([.ref h0, .int p0, .int p1]) (n := 4) (Nat.le_of_ble_eq_true rfl)
  rw [lg_entry_eq]
  generalize (lg_sl ([.ref h0, .int p0, .int p1]) ++ List.replicate (4 - (lg_sl ([.ref h0, .int p0, .int p1])).length) Slot.unset).toArray = ls at hl ⊢
  have hl : lv_has ls 4 [(0, .ref h0), (1, .int p0), (2, .int p1)] := hl
  refine lv_aload_n hx hb dX4_sign_0 rfl (lv_at hl 0 rfl) ?_
  refine lv_iload_n hx hb dX4_sign_1 rfl (lv_at hl 1 rfl) ?_
  have hPc := hP.sub (ws' := [(h0, .inr (3, [.ref h1, .ref h2, .ref h4])), (h1, .inl (kS, 4, .inr (.inr (.inr (.inr (fun _ => none))))))]) [0, 1] rfl
  have hKc := hK.sub (tys' := [(kS, .object "SignForms$Stream")]) [0] rfl
  refine va_csq (W.runV (As := [.int p0]) (rest := []) ⟨hx, hb, hml, hown, hts⟩ (kX4_openStream l dC dI h0 h1 h2 h4 kS p0) (cwV 1 hts gX4_sign_X4_openStream rfl rfl rfl (by decide +kernel) ⟨Nat.le_of_ble_eq_true rfl, Nat.le_of_ble_eq_true rfl⟩) ⟨fun a U g mk q => by obtain ⟨q0, qP, qK⟩ := q; exact ⟨q0, qP, va_K.moved (u := U) (U := U.calling g mk a) (Vm.Alike.refl U.vm) qK⟩, va_recv hKc hPc (ci := 3) (q0 := 0) rfl rfl, fun U hU hW => ⟨rfl, by rw [hU]; exact hPc, va_K.moved hW.alike hKc⟩⟩ rfl rfl hl.1 rfl (lv_room (Nat.le_of_ble_eq_true rfl)) dX4_sign_2 ⟨Nat.le_of_ble_eq_true rfl, Nat.le_of_ble_eq_true rfl⟩) (fun r_1 hwr_1 => ?_)
  subst hwr_1
  refine W.eq (g2 := F0 m 5 ls [.null]) rfl ?_
  refine lv_astore_nN (lv' := [(3, .null), (0, .ref h0), (1, .int p0), (2, .int p1)]) hx hb dX4_sign_5 rfl hl (by decide) rfl (fun ls hl => ?_)
  refine lv_aload_nN hx hb dX4_sign_6 rfl (lv_at hl 0 rfl) ?_
  refine lv_ifnullN (tgt := 18) hx hb dX4_sign_7 (by decide) ?_
  refine lv_iconst (v := (-1)) hx hb dX4_sign_18 (by decide) ?_
  exact W.iret (v := (-1)) hx hb hr (fun t ht hW => ⟨(-1), rfl, rfl, ht⟩) (fun q h => by cases h) dX4_sign_19
set_option maxHeartbeats 4000000 in
set_option maxRecDepth 100000 in
theorem kX4_placed (l : Launch) (dC : Nat → ClassId) (dI : Nat → Nat → Nat) (h0 h1 h2 h4 : Nat) (kS : ClassId) (p0 : Int32) (p1 : Int32) (p2 : Int32) : Met l yX4_placed wsX4_placed ({ frames := 2, cells := 0, slots := 0, locals := 42 } : Room) (va_Pc [.ref h0, .int p0, .int p1, .int p2] (fun U => va_P (dC, dI) vwCl [(h0, .inr (3, [.ref h1, .ref h2, .ref h4])), (h1, .inl (kS, 4, .inr (.inr (.inr (.inr (fun _ => none))))))] U.heap ∧ va_K (dC, dI) vwCl [(kS, .object "SignForms$Stream")] U)) (vp_Si (fun r => r = -1)) 0 0 (fun _ => False) := by
  refine Met.ofW (cc := cX4_placed) (maxL := 5) (ret := (some .int)) (by decide) rfl ?_
  intro p e s m args below meth c s₁ B hml hv
  obtain ⟨rfl, hP, hK⟩ := hv
  have hx := B.exec
  have hb := B.bytes
  have hr := B.returns
  have hts := atoms_spec (ws := wsX4_placed) B.pre
  have hown : s.vm.findClass RX4 = some m.cls := findClass_of_methodNamed B.named
  have hlocks := B.notSynchronized
  have hl := lv_entry ([.ref h0, .int p0, .int p1, .int p2]) (n := 5) (Nat.le_of_ble_eq_true rfl)
  rw [lg_entry_eq]
  generalize (lg_sl ([.ref h0, .int p0, .int p1, .int p2]) ++ List.replicate (5 - (lg_sl ([.ref h0, .int p0, .int p1, .int p2])).length) Slot.unset).toArray = ls at hl ⊢
  have hl : lv_has ls 5 [(0, .ref h0), (1, .int p0), (2, .int p1), (3, .int p2)] := hl
  refine lv_aload_n hx hb dX4_placed_0 rfl (lv_at hl 0 rfl) ?_
  refine lv_iload_n hx hb dX4_placed_1 rfl (lv_at hl 1 rfl) ?_
  have hPc := hP.sub (ws' := [(h0, .inr (3, [.ref h1, .ref h2, .ref h4])), (h1, .inl (kS, 4, .inr (.inr (.inr (.inr (fun _ => none))))))]) [0, 1] rfl
  have hKc := hK.sub (tys' := [(kS, .object "SignForms$Stream")]) [0] rfl
  refine va_csq (W.runV (As := [.int p0]) (rest := []) ⟨hx, hb, hml, hown, hts⟩ (kX4_openStream l dC dI h0 h1 h2 h4 kS p0) (cwV 1 hts gX4_placed_X4_openStream rfl rfl rfl (by decide +kernel) ⟨Nat.le_of_ble_eq_true rfl, Nat.le_of_ble_eq_true rfl⟩) ⟨fun a U g mk q => by obtain ⟨q0, qP, qK⟩ := q; exact ⟨q0, qP, va_K.moved (u := U) (U := U.calling g mk a) (Vm.Alike.refl U.vm) qK⟩, va_recv hKc hPc (ci := 3) (q0 := 0) rfl rfl, fun U hU hW => ⟨rfl, by rw [hU]; exact hPc, va_K.moved hW.alike hKc⟩⟩ rfl rfl hl.1 rfl (lv_room (Nat.le_of_ble_eq_true rfl)) dX4_placed_2 ⟨Nat.le_of_ble_eq_true rfl, Nat.le_of_ble_eq_true rfl⟩) (fun r_1 hwr_1 => ?_)
  subst hwr_1
  refine W.eq (g2 := F0 m 5 ls [.null]) rfl ?_
  refine lv_astoreN (lv' := [(4, .null), (0, .ref h0), (1, .int p0), (2, .int p1), (3, .int p2)]) hx hb dX4_placed_5 hl (by decide) rfl (fun ls hl => ?_)
  refine lv_aloadN hx hb dX4_placed_7 (lv_at hl 0 rfl) ?_
  refine lv_ifnullN (tgt := 21) hx hb dX4_placed_9 (by decide) ?_
  refine lv_iconst (v := (-1)) hx hb dX4_placed_21 (by decide) ?_
  exact W.iret (v := (-1)) hx hb hr (fun t ht hW => ⟨(-1), rfl, rfl, ht⟩) (fun q h => by cases h) dX4_placed_22
set_option maxHeartbeats 4000000 in
set_option maxRecDepth 100000 in
theorem kX4_at (l : Launch) (dC : Nat → ClassId) (dI : Nat → Nat → Nat) (h0 h1 h2 h4 : Nat) (kS : ClassId) (p0 : Int32) (p1 : Int32) : Met l yX4_at wsX4_at ({ frames := 2, cells := 0, slots := 0, locals := 42 } : Room) (va_Pc [.ref h0, .int p0, .int p1] (fun U => va_P (dC, dI) vwCl [(h0, .inr (3, [.ref h1, .ref h2, .ref h4])), (h1, .inl (kS, 4, .inr (.inr (.inr (.inr (fun _ => none))))))] U.heap ∧ va_K (dC, dI) vwCl [(kS, .object "SignForms$Stream")] U)) (vp_Si (fun r => r = -1)) 0 0 (fun _ => False) := by
  refine Met.ofW (cc := cX4_at) (maxL := 4) (ret := (some .int)) (by decide) rfl ?_
  intro p e s m args below meth c s₁ B hml hv
  obtain ⟨rfl, hP, hK⟩ := hv
  have hx := B.exec
  have hb := B.bytes
  have hr := B.returns
  have hts := atoms_spec (ws := wsX4_at) B.pre
  have hown : s.vm.findClass RX4 = some m.cls := findClass_of_methodNamed B.named
  have hlocks := B.notSynchronized
  have hl := lv_entry ([.ref h0, .int p0, .int p1]) (n := 4) (Nat.le_of_ble_eq_true rfl)
  rw [lg_entry_eq]
  generalize (lg_sl ([.ref h0, .int p0, .int p1]) ++ List.replicate (4 - (lg_sl ([.ref h0, .int p0, .int p1])).length) Slot.unset).toArray = ls at hl ⊢
  have hl : lv_has ls 4 [(0, .ref h0), (1, .int p0), (2, .int p1)] := hl
  refine lv_aload_n hx hb dX4_at_0 rfl (lv_at hl 0 rfl) ?_
  refine lv_iload_n hx hb dX4_at_1 rfl (lv_at hl 1 rfl) ?_
  have hPc := hP.sub (ws' := [(h0, .inr (3, [.ref h1, .ref h2, .ref h4])), (h1, .inl (kS, 4, .inr (.inr (.inr (.inr (fun _ => none))))))]) [0, 1] rfl
  have hKc := hK.sub (tys' := [(kS, .object "SignForms$Stream")]) [0] rfl
  refine va_csq (W.runV (As := [.int p0]) (rest := []) ⟨hx, hb, hml, hown, hts⟩ (kX4_openStream l dC dI h0 h1 h2 h4 kS p0) (cwV 1 hts gX4_at_X4_openStream rfl rfl rfl (by decide +kernel) ⟨Nat.le_of_ble_eq_true rfl, Nat.le_of_ble_eq_true rfl⟩) ⟨fun a U g mk q => by obtain ⟨q0, qP, qK⟩ := q; exact ⟨q0, qP, va_K.moved (u := U) (U := U.calling g mk a) (Vm.Alike.refl U.vm) qK⟩, va_recv hKc hPc (ci := 3) (q0 := 0) rfl rfl, fun U hU hW => ⟨rfl, by rw [hU]; exact hPc, va_K.moved hW.alike hKc⟩⟩ rfl rfl hl.1 rfl (lv_room (Nat.le_of_ble_eq_true rfl)) dX4_at_2 ⟨Nat.le_of_ble_eq_true rfl, Nat.le_of_ble_eq_true rfl⟩) (fun r_1 hwr_1 => ?_)
  subst hwr_1
  refine W.eq (g2 := F0 m 5 ls [.null]) rfl ?_
  refine lv_astore_nN (lv' := [(3, .null), (0, .ref h0), (1, .int p0), (2, .int p1)]) hx hb dX4_at_5 rfl hl (by decide) rfl (fun ls hl => ?_)
  refine lv_aload_nN hx hb dX4_at_6 rfl (lv_at hl 0 rfl) ?_
  refine lv_ifnonnullN hx hb dX4_at_7 ?_
  refine lv_iconst (v := (-1)) hx hb dX4_at_10 (by decide) ?_
  refine lv_goto (tgt := 19) hx hb dX4_at_11 (by decide) ?_
  exact W.iret (v := (-1)) hx hb hr (fun t ht hW => ⟨(-1), rfl, rfl, ht⟩) (fun q h => by cases h) dX4_at_19
set_option maxHeartbeats 4000000 in
set_option maxRecDepth 100000 in
theorem kX4_write (l : Launch) (dC : Nat → ClassId) (dI : Nat → Nat → Nat) (h0 h1 h2 h4 : Nat) (kS : ClassId) (p0 : Int32) (p1 : Int32) (p2 : Int32) : Met l yX4_write wsX4_write ({ frames := 1, cells := 0, slots := 0, locals := 21 } : Room) (va_Pc [.ref h0, .int p0, .int p1, .int p2] (fun U => va_P (dC, dI) vwCl [(h0, .inr (3, [.ref h1, .ref h2, .ref h4])), (h1, .inl (kS, 4, .inr (.inr (.inr (.inr (fun _ => none))))))] U.heap ∧ va_K (dC, dI) vwCl [(kS, .object "SignForms$Stream")] U)) (vp_Si (fun r => r = an_write p0 p1)) 0 0 (fun _ => False) := by
  refine Met.ofW (cc := cX4_write) (maxL := 7) (ret := (some .int)) (by decide) rfl ?_
  intro p e s m args below meth c s₁ B hml hv
  obtain ⟨rfl, hP, hK⟩ := hv
  have hx := B.exec
  have hb := B.bytes
  have hr := B.returns
  have hts := atoms_spec (ws := wsX4_write) B.pre
  have hown : s.vm.findClass RX4 = some m.cls := findClass_of_methodNamed B.named
  have hlocks := B.notSynchronized
  have hl := lv_entry ([.ref h0, .int p0, .int p1, .int p2]) (n := 7) (Nat.le_of_ble_eq_true rfl)
  rw [lg_entry_eq]
  generalize (lg_sl ([.ref h0, .int p0, .int p1, .int p2]) ++ List.replicate (7 - (lg_sl ([.ref h0, .int p0, .int p1, .int p2])).length) Slot.unset).toArray = ls at hl ⊢
  have hl : lv_has ls 7 [(0, .ref h0), (1, .int p0), (2, .int p1), (3, .int p2)] := hl
  refine lv_aload_n hx hb dX4_write_0 rfl (lv_at hl 0 rfl) ?_
  refine lv_iload_n hx hb dX4_write_1 rfl (lv_at hl 1 rfl) ?_
  have hPc := hP.sub (ws' := [(h0, .inr (3, [.ref h1, .ref h2, .ref h4])), (h1, .inl (kS, 4, .inr (.inr (.inr (.inr (fun _ => none))))))]) [0, 1] rfl
  have hKc := hK.sub (tys' := [(kS, .object "SignForms$Stream")]) [0] rfl
  refine vp_callSi (W.runV (As := [.int p0]) (rest := []) ⟨hx, hb, hml, hown, hts⟩ (kX4_isStream l dC dI h0 h1 h2 h4 kS p0) (cwV 1 hts gX4_write_X4_isStream rfl rfl rfl (by decide +kernel) ⟨Nat.le_of_ble_eq_true rfl, Nat.le_of_ble_eq_true rfl⟩) ⟨fun a U g mk q => by obtain ⟨q0, qP, qK⟩ := q; exact ⟨q0, qP, va_K.moved (u := U) (U := U.calling g mk a) (Vm.Alike.refl U.vm) qK⟩, va_recv hKc hPc (ci := 3) (q0 := 0) rfl rfl, fun U hU hW => ⟨rfl, by rw [hU]; exact hPc, va_K.moved hW.alike hKc⟩⟩ rfl rfl hl.1 rfl (lv_room (Nat.le_of_ble_eq_true rfl)) dX4_write_2 ⟨Nat.le_of_ble_eq_true rfl, Nat.le_of_ble_eq_true rfl⟩) (fun r_1 hwr_1 => ?_)
  rcases hwr_1 with ⟨rfl, hwr_1⟩ | ⟨rfl, hwr_1⟩
  · refine lv_if_eq (tgt := 15) hx hb dX4_write_5 (by decide) (fun c_2 => False.elim (by revert c_2; decide)) (fun _ => ?_)
    refine lv_iload_n hx hb dX4_write_8 rfl (lv_at hl 2 rfl) ?_
    refine vp_callSi (W.runS (As := [.int p1]) (rest := []) ⟨hx, hb, hml, hown, hts⟩ (kX4_isWritable l p1) (va_cwS 1 hts gX4_write_X4_isWritable rfl rfl rfl (by decide +kernel) ⟨Nat.le_of_ble_eq_true rfl, Nat.le_of_ble_eq_true rfl⟩) ⟨fun a U g mk q => q, fun U hU hW => ⟨rfl, trivial⟩⟩ rfl rfl hl.1 rfl (lv_room (Nat.le_of_ble_eq_true rfl)) dX4_write_9 ⟨Nat.le_of_ble_eq_true rfl, Nat.le_of_ble_eq_true rfl⟩) (fun r_3 hwr_3 => ?_)
    rcases hwr_3 with ⟨rfl, hwr_3⟩ | ⟨rfl, hwr_3⟩
    · refine lv_if_ne (tgt := 17) hx hb dX4_write_12 (by decide) (fun _ => ?_) (fun c_4 => False.elim (by revert c_4; decide))
      refine lv_aload_n hx hb dX4_write_17 rfl (lv_at hl 0 rfl) ?_
      refine va_get (D := (dC, dI)) (ci := 3) (v := .ref h1) (C := RX4) (T := TX4) (N := 3) hx hb hts (by decide +kernel) hown hK hP 0 rfl rfl 0 (by decide) (hts (.fieldLink RX4 11 "SignForms" "streams" "[LSignForms$Stream;") (by decide +kernel)) (fun _ h9 => h9) rfl dX4_write_18 ?_
      refine lv_iload_n hx hb dX4_write_21 rfl (lv_at hl 1 rfl) ?_
      refine va_aldq hx hb hK hP 1 0 rfl rfl (vp_in_iff.mpr (by omega)) dX4_write_22 ?_
      refine W.eq (g2 := F0 m 23 ls [.null]) rfl ?_
      refine lv_astoreN (lv' := [(4, .null), (0, .ref h0), (1, .int p0), (2, .int p1), (3, .int p2)]) hx hb dX4_write_23 hl (by decide) rfl (fun ls hl => ?_)
      refine lv_aloadN hx hb dX4_write_25 (lv_at hl 0 rfl) ?_
      refine lv_ifnonnullN hx hb dX4_write_27 ?_
      refine lv_bipush (v := (-2)) hx hb dX4_write_30 (by decide) ?_
      exact W.iret (v := (-2)) hx hb hr (fun t ht hW => ⟨(-2), rfl, by unfold an_write; first | rw [if_pos (by omega)] | rw [if_neg (by omega)], ht⟩) (fun q h => by cases h) dX4_write_32
    · refine lv_if_ne (tgt := 17) hx hb dX4_write_12 (by decide) (fun c_5 => False.elim (by revert c_5; decide)) (fun _ => ?_)
      refine lv_iconst (v := (-1)) hx hb dX4_write_15 (by decide) ?_
      exact W.iret (v := (-1)) hx hb hr (fun t ht hW => ⟨(-1), rfl, by unfold an_write; first | rw [if_pos (by omega)] | rw [if_neg (by omega)], ht⟩) (fun q h => by cases h) dX4_write_16
  · refine lv_if_eq (tgt := 15) hx hb dX4_write_5 (by decide) (fun _ => ?_) (fun c_6 => False.elim (by revert c_6; decide))
    refine lv_iconst (v := (-1)) hx hb dX4_write_15 (by decide) ?_
    exact W.iret (v := (-1)) hx hb hr (fun t ht hW => ⟨(-1), rfl, by unfold an_write; first | rw [if_pos (by omega)] | rw [if_neg (by omega)], ht⟩) (fun q h => by cases h) dX4_write_16
set_option maxHeartbeats 4000000 in
set_option maxRecDepth 100000 in
theorem kX4_size (l : Launch) (dC : Nat → ClassId) (dI : Nat → Nat → Nat) (h0 h1 h2 h4 : Nat) (kS : ClassId) (p0 : Int32) (p1 : Int32) (p2 : Int32) (p3 : Int32) : Met l yX4_size wsX4_size ({ frames := 1, cells := 0, slots := 0, locals := 21 } : Room) (va_Pc [.ref h0, .int p0, .int p1, .int p2, .int p3] (fun U => va_P (dC, dI) vwCl [(h0, .inr (3, [.ref h1, .ref h2, .ref h4])), (h1, .inl (kS, 4, .inr (.inr (.inr (.inr (fun _ => none))))))] U.heap ∧ va_K (dC, dI) vwCl [(kS, .object "SignForms$Stream")] U)) (vp_Si (fun r => r = an_write p0 p1)) 0 0 (fun _ => False) := by
  refine Met.ofW (cc := cX4_size) (maxL := 6) (ret := (some .int)) (by decide) rfl ?_
  intro p e s m args below meth c s₁ B hml hv
  obtain ⟨rfl, hP, hK⟩ := hv
  have hx := B.exec
  have hb := B.bytes
  have hr := B.returns
  have hts := atoms_spec (ws := wsX4_size) B.pre
  have hown : s.vm.findClass RX4 = some m.cls := findClass_of_methodNamed B.named
  have hlocks := B.notSynchronized
  have hl := lv_entry ([.ref h0, .int p0, .int p1, .int p2, .int p3]) (n := 6) (Nat.le_of_ble_eq_true rfl)
  rw [lg_entry_eq]
  generalize (lg_sl ([.ref h0, .int p0, .int p1, .int p2, .int p3]) ++ List.replicate (6 - (lg_sl ([.ref h0, .int p0, .int p1, .int p2, .int p3])).length) Slot.unset).toArray = ls at hl ⊢
  have hl : lv_has ls 6 [(0, .ref h0), (1, .int p0), (2, .int p1), (3, .int p2), (4, .int p3)] := hl
  refine lv_aload_n hx hb dX4_size_0 rfl (lv_at hl 0 rfl) ?_
  refine lv_iload_n hx hb dX4_size_1 rfl (lv_at hl 1 rfl) ?_
  have hPc := hP.sub (ws' := [(h0, .inr (3, [.ref h1, .ref h2, .ref h4])), (h1, .inl (kS, 4, .inr (.inr (.inr (.inr (fun _ => none))))))]) [0, 1] rfl
  have hKc := hK.sub (tys' := [(kS, .object "SignForms$Stream")]) [0] rfl
  refine vp_callSi (W.runV (As := [.int p0]) (rest := []) ⟨hx, hb, hml, hown, hts⟩ (kX4_isStream l dC dI h0 h1 h2 h4 kS p0) (cwV 1 hts gX4_size_X4_isStream rfl rfl rfl (by decide +kernel) ⟨Nat.le_of_ble_eq_true rfl, Nat.le_of_ble_eq_true rfl⟩) ⟨fun a U g mk q => by obtain ⟨q0, qP, qK⟩ := q; exact ⟨q0, qP, va_K.moved (u := U) (U := U.calling g mk a) (Vm.Alike.refl U.vm) qK⟩, va_recv hKc hPc (ci := 3) (q0 := 0) rfl rfl, fun U hU hW => ⟨rfl, by rw [hU]; exact hPc, va_K.moved hW.alike hKc⟩⟩ rfl rfl hl.1 rfl (lv_room (Nat.le_of_ble_eq_true rfl)) dX4_size_2 ⟨Nat.le_of_ble_eq_true rfl, Nat.le_of_ble_eq_true rfl⟩) (fun r_1 hwr_1 => ?_)
  rcases hwr_1 with ⟨rfl, hwr_1⟩ | ⟨rfl, hwr_1⟩
  · refine lv_if_eq (tgt := 15) hx hb dX4_size_5 (by decide) (fun c_2 => False.elim (by revert c_2; decide)) (fun _ => ?_)
    refine lv_iload_n hx hb dX4_size_8 rfl (lv_at hl 2 rfl) ?_
    refine vp_callSi (W.runS (As := [.int p1]) (rest := []) ⟨hx, hb, hml, hown, hts⟩ (kX4_isWritable l p1) (va_cwS 1 hts gX4_size_X4_isWritable rfl rfl rfl (by decide +kernel) ⟨Nat.le_of_ble_eq_true rfl, Nat.le_of_ble_eq_true rfl⟩) ⟨fun a U g mk q => q, fun U hU hW => ⟨rfl, trivial⟩⟩ rfl rfl hl.1 rfl (lv_room (Nat.le_of_ble_eq_true rfl)) dX4_size_9 ⟨Nat.le_of_ble_eq_true rfl, Nat.le_of_ble_eq_true rfl⟩) (fun r_3 hwr_3 => ?_)
    rcases hwr_3 with ⟨rfl, hwr_3⟩ | ⟨rfl, hwr_3⟩
    · refine lv_if_ne (tgt := 17) hx hb dX4_size_12 (by decide) (fun _ => ?_) (fun c_4 => False.elim (by revert c_4; decide))
      refine lv_aload_n hx hb dX4_size_17 rfl (lv_at hl 0 rfl) ?_
      refine va_get (D := (dC, dI)) (ci := 3) (v := .ref h1) (C := RX4) (T := TX4) (N := 3) hx hb hts (by decide +kernel) hown hK hP 0 rfl rfl 0 (by decide) (hts (.fieldLink RX4 11 "SignForms" "streams" "[LSignForms$Stream;") (by decide +kernel)) (fun _ h9 => h9) rfl dX4_size_18 ?_
      refine lv_iload_n hx hb dX4_size_21 rfl (lv_at hl 1 rfl) ?_
      refine va_aldq hx hb hK hP 1 0 rfl rfl (vp_in_iff.mpr (by omega)) dX4_size_22 ?_
      refine W.eq (g2 := F0 m 23 ls [.null]) rfl ?_
      refine lv_astoreN (lv' := [(5, .null), (0, .ref h0), (1, .int p0), (2, .int p1), (3, .int p2), (4, .int p3)]) hx hb dX4_size_23 hl (by decide) rfl (fun ls hl => ?_)
      refine lv_aloadN hx hb dX4_size_25 (lv_at hl 0 rfl) ?_
      refine lv_ifnonnullN hx hb dX4_size_27 ?_
      refine lv_bipush (v := (-2)) hx hb dX4_size_30 (by decide) ?_
      exact W.iret (v := (-2)) hx hb hr (fun t ht hW => ⟨(-2), rfl, by unfold an_write; first | rw [if_pos (by omega)] | rw [if_neg (by omega)], ht⟩) (fun q h => by cases h) dX4_size_32
    · refine lv_if_ne (tgt := 17) hx hb dX4_size_12 (by decide) (fun c_5 => False.elim (by revert c_5; decide)) (fun _ => ?_)
      refine lv_iconst (v := (-1)) hx hb dX4_size_15 (by decide) ?_
      exact W.iret (v := (-1)) hx hb hr (fun t ht hW => ⟨(-1), rfl, by unfold an_write; first | rw [if_pos (by omega)] | rw [if_neg (by omega)], ht⟩) (fun q h => by cases h) dX4_size_16
  · refine lv_if_eq (tgt := 15) hx hb dX4_size_5 (by decide) (fun _ => ?_) (fun c_6 => False.elim (by revert c_6; decide))
    refine lv_iconst (v := (-1)) hx hb dX4_size_15 (by decide) ?_
    exact W.iret (v := (-1)) hx hb hr (fun t ht hW => ⟨(-1), rfl, by unfold an_write; first | rw [if_pos (by omega)] | rw [if_neg (by omega)], ht⟩) (fun q h => by cases h) dX4_size_16
set_option maxHeartbeats 4000000 in
set_option maxRecDepth 100000 in
theorem kX4_out (l : Launch) (dC : Nat → ClassId) (dI : Nat → Nat → Nat) (h0 h1 h2 h3 h4 : Nat) (p0 : Int32) : Met l yX4_out wsX4_out ({ frames := 1, cells := 0, slots := 0, locals := 21 } : Room) (va_Pc [.ref h0, .int p0] (fun U => va_P (dC, dI) vwCl [(h0, .inr (3, [.ref h1, .ref h2, .ref h4])), (h2, .inr (0, [.ref h3, .int 0]))] U.heap ∧ va_K (dC, dI) vwCl [] U)) (vp_Si (fun r => r = -1)) 0 0 (fun _ => False) := by
  refine Met.ofW (cc := cX4_out) (maxL := 2) (ret := (some .int)) (by decide) rfl ?_
  intro p e s m args below meth c s₁ B hml hv
  obtain ⟨rfl, hP, hK⟩ := hv
  have hx := B.exec
  have hb := B.bytes
  have hr := B.returns
  have hts := atoms_spec (ws := wsX4_out) B.pre
  have hown : s.vm.findClass RX4 = some m.cls := findClass_of_methodNamed B.named
  have hlocks := B.notSynchronized
  have hl := lv_entry ([.ref h0, .int p0]) (n := 2) (Nat.le_of_ble_eq_true rfl)
  rw [lg_entry_eq]
  generalize (lg_sl ([.ref h0, .int p0]) ++ List.replicate (2 - (lg_sl ([.ref h0, .int p0])).length) Slot.unset).toArray = ls at hl ⊢
  have hl : lv_has ls 2 [(0, .ref h0), (1, .int p0)] := hl
  refine lv_aload_n hx hb dX4_out_0 rfl (lv_at hl 0 rfl) ?_
  refine va_get (D := (dC, dI)) (ci := 3) (v := .ref h2) (C := RX4) (T := TX4) (N := 3) hx hb hts (by decide +kernel) hown hK hP 0 rfl rfl 1 (by decide) (hts (.fieldLink RX4 18 "SignForms" "outRow" "LSignForms$OutRow;") (by decide +kernel)) (fun _ h9 => h9) rfl dX4_out_1 ?_
  refine lv_iload_n hx hb dX4_out_4 rfl (lv_at hl 1 rfl) ?_
  have hPc := hP.sub (ws' := [(h2, .inr (0, [.ref h3, .int 0]))]) [1] rfl
  have hKc := hK.sub (tys' := []) [] rfl
  refine vp_callSi (W.runV (As := [.int p0]) (rest := []) ⟨hx, hb, hml, hown, hts⟩ (kX1_byteAt l dC dI h2 h3 p0) (cwV 1 hts gX4_out_X1_byteAt rfl rfl rfl (by decide +kernel) ⟨Nat.le_of_ble_eq_true rfl, Nat.le_of_ble_eq_true rfl⟩) ⟨fun a U g mk q => by obtain ⟨q0, qP, qK⟩ := q; exact ⟨q0, qP, va_K.moved (u := U) (U := U.calling g mk a) (Vm.Alike.refl U.vm) qK⟩, va_recv hKc hPc (ci := 0) (q0 := 0) rfl rfl, fun U hU hW => ⟨rfl, by rw [hU]; exact hPc, va_K.moved hW.alike hKc⟩⟩ rfl rfl hl.1 rfl (lv_room (Nat.le_of_ble_eq_true rfl)) dX4_out_5 ⟨Nat.le_of_ble_eq_true rfl, Nat.le_of_ble_eq_true rfl⟩) (fun r_1 hwr_1 => ?_)
  subst hwr_1
  exact W.iret (v := (-1)) hx hb hr (fun t ht hW => ⟨(-1), rfl, rfl, ht⟩) (fun q h => by cases h) dX4_out_8
set_option maxHeartbeats 4000000 in
set_option maxRecDepth 100000 in
theorem kX4_check (l : Launch) (dC : Nat → ClassId) (dI : Nat → Nat → Nat) (h0 h1 h2 h3 h4 : Nat) (p0 : Int32) : Met l yX4_check wsX4_check ({ frames := 1, cells := 0, slots := 0, locals := 20 } : Room) (va_Pc [.ref h0, .int p0] (fun U => va_P (dC, dI) vwCl [(h0, .inr (3, [.ref h1, .ref h2, .ref h4])), (h2, .inr (0, [.ref h3, .int 0]))] U.heap ∧ va_K (dC, dI) vwCl [] U)) (vp_Si (fun r => r = an_check p0)) 0 0 (fun _ => False) := by
  refine Met.ofW (cc := cX4_check) (maxL := 4) (ret := (some .int)) (by decide) rfl ?_
  intro p e s m args below meth c s₁ B hml hv
  obtain ⟨rfl, hP, hK⟩ := hv
  have hx := B.exec
  have hb := B.bytes
  have hr := B.returns
  have hts := atoms_spec (ws := wsX4_check) B.pre
  have hown : s.vm.findClass RX4 = some m.cls := findClass_of_methodNamed B.named
  have hlocks := B.notSynchronized
  have hl := lv_entry ([.ref h0, .int p0]) (n := 4) (Nat.le_of_ble_eq_true rfl)
  rw [lg_entry_eq]
  generalize (lg_sl ([.ref h0, .int p0]) ++ List.replicate (4 - (lg_sl ([.ref h0, .int p0])).length) Slot.unset).toArray = ls at hl ⊢
  have hl : lv_has ls 4 [(0, .ref h0), (1, .int p0)] := hl
  refine lv_iload_n hx hb dX4_check_0 rfl (lv_at hl 1 rfl) ?_
  refine vp_callSi (W.runS (As := [.int p0]) (rest := []) ⟨hx, hb, hml, hown, hts⟩ (kX4_isWritable l p0) (va_cwS 1 hts gX4_check_X4_isWritable rfl rfl rfl (by decide +kernel) ⟨Nat.le_of_ble_eq_true rfl, Nat.le_of_ble_eq_true rfl⟩) ⟨fun a U g mk q => q, fun U hU hW => ⟨rfl, trivial⟩⟩ rfl rfl hl.1 rfl (lv_room (Nat.le_of_ble_eq_true rfl)) dX4_check_1 ⟨Nat.le_of_ble_eq_true rfl, Nat.le_of_ble_eq_true rfl⟩) (fun r_1 hwr_1 => ?_)
  rcases hwr_1 with ⟨rfl, hwr_1⟩ | ⟨rfl, hwr_1⟩
  · refine lv_if_ne (tgt := 9) hx hb dX4_check_4 (by decide) (fun _ => ?_) (fun c_2 => False.elim (by revert c_2; decide))
    refine lv_iconst (v := 0) hx hb dX4_check_9 (by decide) ?_
    refine lv_istore_n (lv' := [(2, .int 0), (0, .ref h0), (1, .int p0)]) hx hb dX4_check_10 rfl hl (by decide) rfl (fun ls hl => ?_)
    refine lv_iconst (v := 0) hx hb dX4_check_11 (by decide) ?_
    refine lv_istore_n (lv' := [(3, .int 0), (2, .int 0), (0, .ref h0), (1, .int p0)]) hx hb dX4_check_12 rfl hl (by decide) rfl (fun ls hl => ?_)
    refine lv_iload_n hx hb dX4_check_13 rfl (lv_at hl 0 rfl) ?_
    refine lv_sipush (v := 6000) hx hb dX4_check_14 (by decide) ?_
    refine lv_icmp_ge (tgt := 83) hx hb dX4_check_17 (by decide) (fun c_3 => False.elim (by revert c_3; decide)) (fun _ => ?_)
    refine lv_iload_n hx hb dX4_check_20 rfl (lv_at hl 1 rfl) ?_
    refine lv_aload_n hx hb dX4_check_21 rfl (lv_at hl 2 rfl) ?_
    refine va_get (D := (dC, dI)) (ci := 3) (v := .ref h2) (C := RX4) (T := TX4) (N := 3) hx hb hts (by decide +kernel) hown hK hP 0 rfl rfl 1 (by decide) (hts (.fieldLink RX4 18 "SignForms" "outRow" "LSignForms$OutRow;") (by decide +kernel)) (fun _ h9 => h9) rfl dX4_check_22 ?_
    refine va_get (D := (dC, dI)) (ci := 0) (v := .int 0) (C := RX1) (T := TX1) (N := 2) hx hb hts (by decide +kernel) hown hK hP 1 rfl rfl 1 (by decide) (hts (.fieldLink RX4 56 "SignForms$OutRow" "count" "I") (by decide +kernel)) (fun _ h9 => h9) rfl dX4_check_25 ?_
    refine lv_icmp_ge (tgt := 83) hx hb dX4_check_28 (by decide) (fun _ => ?_) (fun c_4 => False.elim (by revert c_4; decide))
    refine lv_bipush (v := (-2)) hx hb dX4_check_83 (by decide) ?_
    exact W.iret (v := (-2)) hx hb hr (fun t ht hW => ⟨(-2), rfl, by unfold an_check; first | rw [if_pos (by omega)] | rw [if_neg (by omega)], ht⟩) (fun q h => by cases h) dX4_check_85
  · refine lv_if_ne (tgt := 9) hx hb dX4_check_4 (by decide) (fun c_5 => False.elim (by revert c_5; decide)) (fun _ => ?_)
    refine lv_iconst (v := (-1)) hx hb dX4_check_7 (by decide) ?_
    exact W.iret (v := (-1)) hx hb hr (fun t ht hW => ⟨(-1), rfl, by unfold an_check; first | rw [if_pos (by omega)] | rw [if_neg (by omega)], ht⟩) (fun q h => by cases h) dX4_check_8
set_option maxHeartbeats 4000000 in
set_option maxRecDepth 100000 in
theorem kX4_order (l : Launch) (dC : Nat → ClassId) (dI : Nat → Nat → Nat) (h0 h1 h2 h4 : Nat) (kS : ClassId) (p0 : Int32) (p1 : Int32) (p2 : Int32) : Met l yX4_order wsX4_order ({ frames := 1, cells := 0, slots := 0, locals := 21 } : Room) (va_Pc [.ref h0, .int p0, .int p1, .int p2] (fun U => va_P (dC, dI) vwCl [(h0, .inr (3, [.ref h1, .ref h2, .ref h4])), (h1, .inl (kS, 4, .inr (.inr (.inr (.inr (fun _ => none))))))] U.heap ∧ va_K (dC, dI) vwCl [(kS, .object "SignForms$Stream")] U)) (vp_Si (fun r => r = an_order p0 p1 p2)) 0 0 (fun _ => False) := by
  refine Met.ofW (cc := cX4_order) (maxL := 8) (ret := (some .int)) (by decide) rfl ?_
  intro p e s m args below meth c s₁ B hml hv
  obtain ⟨rfl, hP, hK⟩ := hv
  have hx := B.exec
  have hb := B.bytes
  have hr := B.returns
  have hts := atoms_spec (ws := wsX4_order) B.pre
  have hown : s.vm.findClass RX4 = some m.cls := findClass_of_methodNamed B.named
  have hlocks := B.notSynchronized
  have hl := lv_entry ([.ref h0, .int p0, .int p1, .int p2]) (n := 8) (Nat.le_of_ble_eq_true rfl)
  rw [lg_entry_eq]
  generalize (lg_sl ([.ref h0, .int p0, .int p1, .int p2]) ++ List.replicate (8 - (lg_sl ([.ref h0, .int p0, .int p1, .int p2])).length) Slot.unset).toArray = ls at hl ⊢
  have hl : lv_has ls 8 [(0, .ref h0), (1, .int p0), (2, .int p1), (3, .int p2)] := hl
  refine lv_aload_n hx hb dX4_order_0 rfl (lv_at hl 0 rfl) ?_
  refine lv_iload_n hx hb dX4_order_1 rfl (lv_at hl 1 rfl) ?_
  have hPc := hP.sub (ws' := [(h0, .inr (3, [.ref h1, .ref h2, .ref h4])), (h1, .inl (kS, 4, .inr (.inr (.inr (.inr (fun _ => none))))))]) [0, 1] rfl
  have hKc := hK.sub (tys' := [(kS, .object "SignForms$Stream")]) [0] rfl
  refine vp_callSi (W.runV (As := [.int p0]) (rest := []) ⟨hx, hb, hml, hown, hts⟩ (kX4_isStream l dC dI h0 h1 h2 h4 kS p0) (cwV 1 hts gX4_order_X4_isStream rfl rfl rfl (by decide +kernel) ⟨Nat.le_of_ble_eq_true rfl, Nat.le_of_ble_eq_true rfl⟩) ⟨fun a U g mk q => by obtain ⟨q0, qP, qK⟩ := q; exact ⟨q0, qP, va_K.moved (u := U) (U := U.calling g mk a) (Vm.Alike.refl U.vm) qK⟩, va_recv hKc hPc (ci := 3) (q0 := 0) rfl rfl, fun U hU hW => ⟨rfl, by rw [hU]; exact hPc, va_K.moved hW.alike hKc⟩⟩ rfl rfl hl.1 rfl (lv_room (Nat.le_of_ble_eq_true rfl)) dX4_order_2 ⟨Nat.le_of_ble_eq_true rfl, Nat.le_of_ble_eq_true rfl⟩) (fun r_1 hwr_1 => ?_)
  rcases hwr_1 with ⟨rfl, hwr_1⟩ | ⟨rfl, hwr_1⟩
  · refine lv_if_eq (tgt := 25) hx hb dX4_order_5 (by decide) (fun c_2 => False.elim (by revert c_2; decide)) (fun _ => ?_)
    refine lv_aload_n hx hb dX4_order_8 rfl (lv_at hl 0 rfl) ?_
    refine lv_iload_n hx hb dX4_order_9 rfl (lv_at hl 2 rfl) ?_
    have hPc := hP.sub (ws' := [(h0, .inr (3, [.ref h1, .ref h2, .ref h4])), (h1, .inl (kS, 4, .inr (.inr (.inr (.inr (fun _ => none))))))]) [0, 1] rfl
    have hKc := hK.sub (tys' := [(kS, .object "SignForms$Stream")]) [0] rfl
    refine vp_callSi (W.runV (As := [.int p1]) (rest := []) ⟨hx, hb, hml, hown, hts⟩ (kX4_isStream l dC dI h0 h1 h2 h4 kS p1) (cwV 1 hts gX4_order_X4_isStream rfl rfl rfl (by decide +kernel) ⟨Nat.le_of_ble_eq_true rfl, Nat.le_of_ble_eq_true rfl⟩) ⟨fun a U g mk q => by obtain ⟨q0, qP, qK⟩ := q; exact ⟨q0, qP, va_K.moved (u := U) (U := U.calling g mk a) (Vm.Alike.refl U.vm) qK⟩, va_recv hKc hPc (ci := 3) (q0 := 0) rfl rfl, fun U hU hW => ⟨rfl, by rw [hU]; exact hPc, va_K.moved hW.alike hKc⟩⟩ rfl rfl hl.1 rfl (lv_room (Nat.le_of_ble_eq_true rfl)) dX4_order_10 ⟨Nat.le_of_ble_eq_true rfl, Nat.le_of_ble_eq_true rfl⟩) (fun r_3 hwr_3 => ?_)
    rcases hwr_3 with ⟨rfl, hwr_3⟩ | ⟨rfl, hwr_3⟩
    · refine lv_if_eq (tgt := 25) hx hb dX4_order_13 (by decide) (fun c_4 => False.elim (by revert c_4; decide)) (fun _ => ?_)
      refine lv_iload_n hx hb dX4_order_16 rfl (lv_at hl 3 rfl) ?_
      refine lv_if_lt (tgt := 25) hx hb dX4_order_17 (by decide) (fun c_5 => ?_) (fun c_5 => ?_)
      · have zc_5 : p2.toInt < (0 : Int) := zz_lt rfl (by decide) c_5
        refine lv_iconst (v := (-1)) hx hb dX4_order_25 (by decide) ?_
        exact W.iret (v := (-1)) hx hb hr (fun t ht hW => ⟨(-1), rfl, by unfold an_order; first | rw [if_pos (by omega)] | rw [if_neg (by omega)], ht⟩) (fun q h => by cases h) dX4_order_26
      · have zc_5 : p2.toInt ≥ (0 : Int) := zz_nlt rfl (by decide) c_5
        refine lv_iload_n hx hb dX4_order_20 rfl (lv_at hl 3 rfl) ?_
        refine lv_iconst (v := 2) hx hb dX4_order_21 (by decide) ?_
        refine lv_icmp_le (tgt := 27) hx hb dX4_order_22 (by decide) (fun c_6 => ?_) (fun c_6 => ?_)
        · have zc_6 : p2.toInt ≤ (2 : Int) := zz_le rfl (by decide) c_6
          refine lv_aload_n hx hb dX4_order_27 rfl (lv_at hl 0 rfl) ?_
          refine va_get (D := (dC, dI)) (ci := 3) (v := .ref h1) (C := RX4) (T := TX4) (N := 3) hx hb hts (by decide +kernel) hown hK hP 0 rfl rfl 0 (by decide) (hts (.fieldLink RX4 11 "SignForms" "streams" "[LSignForms$Stream;") (by decide +kernel)) (fun _ h9 => h9) rfl dX4_order_28 ?_
          refine lv_iload_n hx hb dX4_order_31 rfl (lv_at hl 1 rfl) ?_
          refine va_aldq hx hb hK hP 1 0 rfl rfl (vp_in_iff.mpr (by omega)) dX4_order_32 ?_
          refine W.eq (g2 := F0 m 33 ls [.null]) rfl ?_
          refine lv_astoreN (lv' := [(4, .null), (0, .ref h0), (1, .int p0), (2, .int p1), (3, .int p2)]) hx hb dX4_order_33 hl (by decide) rfl (fun ls hl => ?_)
          refine lv_aload_n hx hb dX4_order_35 rfl (lv_at hl 1 rfl) ?_
          refine va_get (D := (dC, dI)) (ci := 3) (v := .ref h1) (C := RX4) (T := TX4) (N := 3) hx hb hts (by decide +kernel) hown hK hP 0 rfl rfl 0 (by decide) (hts (.fieldLink RX4 11 "SignForms" "streams" "[LSignForms$Stream;") (by decide +kernel)) (fun _ h9 => h9) rfl dX4_order_36 ?_
          refine lv_iload_n hx hb dX4_order_39 rfl (lv_at hl 3 rfl) ?_
          refine va_aldq hx hb hK hP 1 0 rfl rfl (vp_in_iff.mpr (by omega)) dX4_order_40 ?_
          refine W.eq (g2 := F0 m 41 ls [.null]) rfl ?_
          refine lv_astoreN (lv' := [(5, .null), (4, .null), (0, .ref h0), (1, .int p0), (2, .int p1), (3, .int p2)]) hx hb dX4_order_41 hl (by decide) rfl (fun ls hl => ?_)
          refine lv_aloadN hx hb dX4_order_43 (lv_at hl 1 rfl) ?_
          refine lv_ifnullN (tgt := 53) hx hb dX4_order_45 (by decide) ?_
          refine lv_bipush (v := (-2)) hx hb dX4_order_53 (by decide) ?_
          exact W.iret (v := (-2)) hx hb hr (fun t ht hW => ⟨(-2), rfl, by unfold an_order; first | rw [if_pos (by omega)] | rw [if_neg (by omega)], ht⟩) (fun q h => by cases h) dX4_order_55
        · have zc_6 : p2.toInt > (2 : Int) := zz_nle rfl (by decide) c_6
          refine lv_iconst (v := (-1)) hx hb dX4_order_25 (by decide) ?_
          exact W.iret (v := (-1)) hx hb hr (fun t ht hW => ⟨(-1), rfl, by unfold an_order; first | rw [if_pos (by omega)] | rw [if_neg (by omega)], ht⟩) (fun q h => by cases h) dX4_order_26
    · refine lv_if_eq (tgt := 25) hx hb dX4_order_13 (by decide) (fun _ => ?_) (fun c_7 => False.elim (by revert c_7; decide))
      refine lv_iconst (v := (-1)) hx hb dX4_order_25 (by decide) ?_
      exact W.iret (v := (-1)) hx hb hr (fun t ht hW => ⟨(-1), rfl, by unfold an_order; first | rw [if_pos (by omega)] | rw [if_neg (by omega)], ht⟩) (fun q h => by cases h) dX4_order_26
  · refine lv_if_eq (tgt := 25) hx hb dX4_order_5 (by decide) (fun _ => ?_) (fun c_8 => False.elim (by revert c_8; decide))
    refine lv_iconst (v := (-1)) hx hb dX4_order_25 (by decide) ?_
    exact W.iret (v := (-1)) hx hb hr (fun t ht hW => ⟨(-1), rfl, by unfold an_order; first | rw [if_pos (by omega)] | rw [if_neg (by omega)], ht⟩) (fun q h => by cases h) dX4_order_26
set_option maxHeartbeats 4000000 in
set_option maxRecDepth 100000 in
theorem kX4_among (l : Launch) (dC : Nat → ClassId) (dI : Nat → Nat → Nat) (h0 h1 h2 h4 : Nat) (kS : ClassId) (p0 : Int32) (p1 : Int32) (p2 : Int32) : Met l yX4_among wsX4_among ({ frames := 1, cells := 0, slots := 0, locals := 21 } : Room) (va_Pc [.ref h0, .int p0, .int p1, .int p2] (fun U => va_P (dC, dI) vwCl [(h0, .inr (3, [.ref h1, .ref h2, .ref h4])), (h1, .inl (kS, 4, .inr (.inr (.inr (.inr (fun _ => none))))))] U.heap ∧ va_K (dC, dI) vwCl [(kS, .object "SignForms$Stream")] U)) (vp_Si (fun r => r = an_end p0)) 0 0 (fun _ => False) := by
  refine Met.ofW (cc := cX4_among) (maxL := 5) (ret := (some .int)) (by decide) rfl ?_
  intro p e s m args below meth c s₁ B hml hv
  obtain ⟨rfl, hP, hK⟩ := hv
  have hx := B.exec
  have hb := B.bytes
  have hr := B.returns
  have hts := atoms_spec (ws := wsX4_among) B.pre
  have hown : s.vm.findClass RX4 = some m.cls := findClass_of_methodNamed B.named
  have hlocks := B.notSynchronized
  have hl := lv_entry ([.ref h0, .int p0, .int p1, .int p2]) (n := 5) (Nat.le_of_ble_eq_true rfl)
  rw [lg_entry_eq]
  generalize (lg_sl ([.ref h0, .int p0, .int p1, .int p2]) ++ List.replicate (5 - (lg_sl ([.ref h0, .int p0, .int p1, .int p2])).length) Slot.unset).toArray = ls at hl ⊢
  have hl : lv_has ls 5 [(0, .ref h0), (1, .int p0), (2, .int p1), (3, .int p2)] := hl
  refine lv_aload_n hx hb dX4_among_0 rfl (lv_at hl 0 rfl) ?_
  refine lv_iload_n hx hb dX4_among_1 rfl (lv_at hl 1 rfl) ?_
  have hPc := hP.sub (ws' := [(h0, .inr (3, [.ref h1, .ref h2, .ref h4])), (h1, .inl (kS, 4, .inr (.inr (.inr (.inr (fun _ => none))))))]) [0, 1] rfl
  have hKc := hK.sub (tys' := [(kS, .object "SignForms$Stream")]) [0] rfl
  refine vp_callSi (W.runV (As := [.int p0]) (rest := []) ⟨hx, hb, hml, hown, hts⟩ (kX4_isStream l dC dI h0 h1 h2 h4 kS p0) (cwV 1 hts gX4_among_X4_isStream rfl rfl rfl (by decide +kernel) ⟨Nat.le_of_ble_eq_true rfl, Nat.le_of_ble_eq_true rfl⟩) ⟨fun a U g mk q => by obtain ⟨q0, qP, qK⟩ := q; exact ⟨q0, qP, va_K.moved (u := U) (U := U.calling g mk a) (Vm.Alike.refl U.vm) qK⟩, va_recv hKc hPc (ci := 3) (q0 := 0) rfl rfl, fun U hU hW => ⟨rfl, by rw [hU]; exact hPc, va_K.moved hW.alike hKc⟩⟩ rfl rfl hl.1 rfl (lv_room (Nat.le_of_ble_eq_true rfl)) dX4_among_2 ⟨Nat.le_of_ble_eq_true rfl, Nat.le_of_ble_eq_true rfl⟩) (fun r_1 hwr_1 => ?_)
  rcases hwr_1 with ⟨rfl, hwr_1⟩ | ⟨rfl, hwr_1⟩
  · refine lv_if_ne (tgt := 10) hx hb dX4_among_5 (by decide) (fun _ => ?_) (fun c_2 => False.elim (by revert c_2; decide))
    refine lv_aload_n hx hb dX4_among_10 rfl (lv_at hl 0 rfl) ?_
    refine va_get (D := (dC, dI)) (ci := 3) (v := .ref h1) (C := RX4) (T := TX4) (N := 3) hx hb hts (by decide +kernel) hown hK hP 0 rfl rfl 0 (by decide) (hts (.fieldLink RX4 11 "SignForms" "streams" "[LSignForms$Stream;") (by decide +kernel)) (fun _ h9 => h9) rfl dX4_among_11 ?_
    refine lv_iload_n hx hb dX4_among_14 rfl (lv_at hl 1 rfl) ?_
    refine va_aldq hx hb hK hP 1 0 rfl rfl (vp_in_iff.mpr (by omega)) dX4_among_15 ?_
    refine W.eq (g2 := F0 m 16 ls [.null]) rfl ?_
    refine lv_astoreN (lv' := [(4, .null), (0, .ref h0), (1, .int p0), (2, .int p1), (3, .int p2)]) hx hb dX4_among_16 hl (by decide) rfl (fun ls hl => ?_)
    refine lv_aloadN hx hb dX4_among_18 (lv_at hl 0 rfl) ?_
    refine lv_ifnonnullN hx hb dX4_among_20 ?_
    refine lv_bipush (v := (-2)) hx hb dX4_among_23 (by decide) ?_
    refine lv_goto (tgt := 35) hx hb dX4_among_25 (by decide) ?_
    exact W.iret (v := (-2)) hx hb hr (fun t ht hW => ⟨(-2), rfl, by unfold an_end; first | rw [if_pos (by omega)] | rw [if_neg (by omega)], ht⟩) (fun q h => by cases h) dX4_among_35
  · refine lv_if_ne (tgt := 10) hx hb dX4_among_5 (by decide) (fun c_3 => False.elim (by revert c_3; decide)) (fun _ => ?_)
    refine lv_iconst (v := (-1)) hx hb dX4_among_8 (by decide) ?_
    exact W.iret (v := (-1)) hx hb hr (fun t ht hW => ⟨(-1), rfl, by unfold an_end; first | rw [if_pos (by omega)] | rw [if_neg (by omega)], ht⟩) (fun q h => by cases h) dX4_among_9
end
section
set_option maxHeartbeats 4000000 in
set_option maxRecDepth 100000 in
theorem kX5_isStream (l : Launch) (p0 : Int32) : Met l yX5_isStream wsX5_isStream ({ frames := 0, cells := 0, slots := 0, locals := 0 } : Room) (va_Pc [.int p0] (fun _ => True)) (vp_Si (fun r => (r = 1 ∧ (0 ≤ p0.toInt ∧ p0.toInt < 4)) ∨ (r = 0 ∧ ¬ (0 ≤ p0.toInt ∧ p0.toInt < 4)))) 0 0 (fun _ => False) := by
  refine Met.ofW (cc := cX5_isStream) (maxL := 1) (ret := (some .boolean)) (by decide) rfl ?_
  intro p e s m args below meth c s₁ B hml hv
  obtain ⟨rfl, -⟩ := hv
  have hx := B.exec
  have hb := B.bytes
  have hr := B.returns
  have hts := atoms_spec (ws := wsX5_isStream) B.pre
  have hown : s.vm.findClass RX5 = some m.cls := findClass_of_methodNamed B.named
  have hlocks := B.notSynchronized
  have hl := lv_entry ([.int p0]) (n := 1) (Nat.le_of_ble_eq_true rfl)
  rw [lg_entry_eq]
  generalize (lg_sl ([.int p0]) ++ List.replicate (1 - (lg_sl ([.int p0])).length) Slot.unset).toArray = ls at hl ⊢
  have hl : lv_has ls 1 [(0, .int p0)] := hl
  refine lv_iload_n hx hb dX5_isStream_0 rfl (lv_at hl 0 rfl) ?_
  refine lv_if_lt (tgt := 13) hx hb dX5_isStream_1 (by decide) (fun c_1 => ?_) (fun c_1 => ?_)
  · have zc_1 : p0.toInt < (0 : Int) := zz_lt rfl (by decide) c_1
    refine lv_iconst (v := 0) hx hb dX5_isStream_13 (by decide) ?_
    exact W.zret (v := 0) hx hb hr rfl (fun t ht hW => ⟨0, rfl, Or.inr ⟨rfl, by omega⟩, ht⟩) (fun q h => by cases h) dX5_isStream_14
  · have zc_1 : p0.toInt ≥ (0 : Int) := zz_nlt rfl (by decide) c_1
    refine lv_iload_n hx hb dX5_isStream_4 rfl (lv_at hl 0 rfl) ?_
    refine lv_iconst (v := 4) hx hb dX5_isStream_5 (by decide) ?_
    refine lv_icmp_ge (tgt := 13) hx hb dX5_isStream_6 (by decide) (fun c_2 => ?_) (fun c_2 => ?_)
    · have zc_2 : (4 : Int) ≤ p0.toInt := zz_le (by decide) rfl c_2
      refine lv_iconst (v := 0) hx hb dX5_isStream_13 (by decide) ?_
      exact W.zret (v := 0) hx hb hr rfl (fun t ht hW => ⟨0, rfl, Or.inr ⟨rfl, by omega⟩, ht⟩) (fun q h => by cases h) dX5_isStream_14
    · have zc_2 : (4 : Int) > p0.toInt := zz_nle (by decide) rfl c_2
      refine lv_iconst (v := 1) hx hb dX5_isStream_9 (by decide) ?_
      refine lv_goto (tgt := 14) hx hb dX5_isStream_10 (by decide) ?_
      exact W.zret (v := 1) hx hb hr rfl (fun t ht hW => ⟨1, rfl, Or.inl ⟨rfl, by omega⟩, ht⟩) (fun q h => by cases h) dX5_isStream_14
set_option maxHeartbeats 4000000 in
set_option maxRecDepth 100000 in
theorem kX5_isForm (l : Launch) (p0 : Int32) : Met l yX5_isForm wsX5_isForm ({ frames := 0, cells := 0, slots := 0, locals := 0 } : Room) (va_Pc [.int p0] (fun _ => True)) (vp_Si (fun r => (r = 1 ∧ (0 ≤ p0.toInt ∧ p0.toInt ≤ 5)) ∨ (r = 0 ∧ ¬ (0 ≤ p0.toInt ∧ p0.toInt ≤ 5)))) 0 0 (fun _ => False) := by
  refine Met.ofW (cc := cX5_isForm) (maxL := 1) (ret := (some .boolean)) (by decide) rfl ?_
  intro p e s m args below meth c s₁ B hml hv
  obtain ⟨rfl, -⟩ := hv
  have hx := B.exec
  have hb := B.bytes
  have hr := B.returns
  have hts := atoms_spec (ws := wsX5_isForm) B.pre
  have hown : s.vm.findClass RX5 = some m.cls := findClass_of_methodNamed B.named
  have hlocks := B.notSynchronized
  have hl := lv_entry ([.int p0]) (n := 1) (Nat.le_of_ble_eq_true rfl)
  rw [lg_entry_eq]
  generalize (lg_sl ([.int p0]) ++ List.replicate (1 - (lg_sl ([.int p0])).length) Slot.unset).toArray = ls at hl ⊢
  have hl : lv_has ls 1 [(0, .int p0)] := hl
  refine lv_iload_n hx hb dX5_isForm_0 rfl (lv_at hl 0 rfl) ?_
  refine lv_if_lt (tgt := 14) hx hb dX5_isForm_1 (by decide) (fun c_1 => ?_) (fun c_1 => ?_)
  · have zc_1 : p0.toInt < (0 : Int) := zz_lt rfl (by decide) c_1
    refine lv_iconst (v := 0) hx hb dX5_isForm_14 (by decide) ?_
    exact W.zret (v := 0) hx hb hr rfl (fun t ht hW => ⟨0, rfl, Or.inr ⟨rfl, by omega⟩, ht⟩) (fun q h => by cases h) dX5_isForm_15
  · have zc_1 : p0.toInt ≥ (0 : Int) := zz_nlt rfl (by decide) c_1
    refine lv_iload_n hx hb dX5_isForm_4 rfl (lv_at hl 0 rfl) ?_
    refine lv_bipush (v := 6) hx hb dX5_isForm_5 (by decide) ?_
    refine lv_icmp_ge (tgt := 14) hx hb dX5_isForm_7 (by decide) (fun c_2 => ?_) (fun c_2 => ?_)
    · have zc_2 : (6 : Int) ≤ p0.toInt := zz_le (by decide) rfl c_2
      refine lv_iconst (v := 0) hx hb dX5_isForm_14 (by decide) ?_
      exact W.zret (v := 0) hx hb hr rfl (fun t ht hW => ⟨0, rfl, Or.inr ⟨rfl, by omega⟩, ht⟩) (fun q h => by cases h) dX5_isForm_15
    · have zc_2 : (6 : Int) > p0.toInt := zz_nle (by decide) rfl c_2
      refine lv_iconst (v := 1) hx hb dX5_isForm_10 (by decide) ?_
      refine lv_goto (tgt := 15) hx hb dX5_isForm_11 (by decide) ?_
      exact W.zret (v := 1) hx hb hr rfl (fun t ht hW => ⟨1, rfl, Or.inl ⟨rfl, by omega⟩, ht⟩) (fun q h => by cases h) dX5_isForm_15
set_option maxHeartbeats 4000000 in
set_option maxRecDepth 100000 in
theorem kX5_takes (l : Launch) (dC : Nat → ClassId) (dI : Nat → Nat → Nat) (g0 g1 g2 g3 g4 g5 g6 g7 g8 g9 g10 g11 g12 g13 g14 g15 g16 g17 g18 g19 : Nat) (kZ : ClassId) (p0 : Int32) (hs : 0 ≤ p0.toInt ∧ p0.toInt < 4) : Met l yX5_takes wsX5_takes ({ frames := 0, cells := 0, slots := 0, locals := 0 } : Room) (va_Pc [.ref g0, .int p0] (fun U => va_P (dC, dI) vwCl [(g0, .inr (4, [.ref g1, .ref g2, .ref g3, .ref g4, .ref g5, .ref g6, .ref g7, .ref g8, .ref g9, .ref g10, .ref g11, .ref g12, .ref g13, .ref g14, .ref g15, .ref g16, .ref g17, .ref g18, .int 0, .ref g19, .int 0, .int 0, .int 0])), (g1, .inl (kZ, 4, .inl (fun _ => 0)))] U.heap ∧ va_K (dC, dI) vwCl [(kZ, .boolean)] U)) (vp_Si (fun r => r = 0)) 0 0 (fun _ => False) := by
  refine Met.ofW (cc := cX5_takes) (maxL := 2) (ret := (some .boolean)) (by decide) rfl ?_
  intro p e s m args below meth c s₁ B hml hv
  obtain ⟨rfl, hP, hK⟩ := hv
  have hx := B.exec
  have hb := B.bytes
  have hr := B.returns
  have hts := atoms_spec (ws := wsX5_takes) B.pre
  have hown : s.vm.findClass RX5 = some m.cls := findClass_of_methodNamed B.named
  have hlocks := B.notSynchronized
  have hl := lv_entry ([.ref g0, .int p0]) (n := 2) (Nat.le_of_ble_eq_true rfl)
  rw [lg_entry_eq]
  generalize (lg_sl ([.ref g0, .int p0]) ++ List.replicate (2 - (lg_sl ([.ref g0, .int p0])).length) Slot.unset).toArray = ls at hl ⊢
  have hl : lv_has ls 2 [(0, .ref g0), (1, .int p0)] := hl
  refine lv_aload_n hx hb dX5_takes_0 rfl (lv_at hl 0 rfl) ?_
  refine va_get (D := (dC, dI)) (ci := 4) (v := .ref g1) (C := RX5) (T := TX5) (N := 23) hx hb hts (by decide +kernel) hown hK hP 0 rfl rfl 0 (by decide) (hts (.fieldLink RX5 7 "SignFormsModel" "isOpen" "[Z") (by decide +kernel)) (fun _ h9 => h9) rfl dX5_takes_1 ?_
  refine lv_iload_n hx hb dX5_takes_4 rfl (lv_at hl 1 rfl) ?_
  refine va_zald hx hb hK hP 1 0 rfl rfl (vp_in_iff.mpr (by omega)) dX5_takes_5 ?_
  refine W.eq (g2 := F0 m 6 ls [.int 0]) rfl ?_
  refine lv_if_eq (tgt := 22) hx hb dX5_takes_6 (by decide) (fun _ => ?_) (fun c_1 => False.elim (by revert c_1; decide))
  refine lv_iconst (v := 0) hx hb dX5_takes_22 (by decide) ?_
  exact W.zret (v := 0) hx hb hr rfl (fun t ht hW => ⟨0, rfl, rfl, ht⟩) (fun q h => by cases h) dX5_takes_23
set_option maxHeartbeats 4000000 in
set_option maxRecDepth 100000 in
theorem kX5_isSign (l : Launch) (dC : Nat → ClassId) (dI : Nat → Nat → Nat) (g0 g1 g2 g3 g4 g5 g6 g7 g8 g9 g10 g11 g12 g13 g14 g15 g16 g17 g18 g19 : Nat) (kZ : ClassId) (p0 : Int32) (p1 : Int32) : Met l yX5_isSign wsX5_isSign ({ frames := 1, cells := 0, slots := 0, locals := 20 } : Room) (va_Pc [.ref g0, .int p0, .int p1] (fun U => va_P (dC, dI) vwCl [(g0, .inr (4, [.ref g1, .ref g2, .ref g3, .ref g4, .ref g5, .ref g6, .ref g7, .ref g8, .ref g9, .ref g10, .ref g11, .ref g12, .ref g13, .ref g14, .ref g15, .ref g16, .ref g17, .ref g18, .int 0, .ref g19, .int 0, .int 0, .int 0])), (g1, .inl (kZ, 4, .inl (fun _ => 0)))] U.heap ∧ va_K (dC, dI) vwCl [(kZ, .boolean)] U)) (vp_Si (fun r => r = 0)) 0 0 (fun _ => False) := by
  refine Met.ofW (cc := cX5_isSign) (maxL := 3) (ret := (some .boolean)) (by decide) rfl ?_
  intro p e s m args below meth c s₁ B hml hv
  obtain ⟨rfl, hP, hK⟩ := hv
  have hx := B.exec
  have hb := B.bytes
  have hr := B.returns
  have hts := atoms_spec (ws := wsX5_isSign) B.pre
  have hown : s.vm.findClass RX5 = some m.cls := findClass_of_methodNamed B.named
  have hlocks := B.notSynchronized
  have hl := lv_entry ([.ref g0, .int p0, .int p1]) (n := 3) (Nat.le_of_ble_eq_true rfl)
  rw [lg_entry_eq]
  generalize (lg_sl ([.ref g0, .int p0, .int p1]) ++ List.replicate (3 - (lg_sl ([.ref g0, .int p0, .int p1])).length) Slot.unset).toArray = ls at hl ⊢
  have hl : lv_has ls 3 [(0, .ref g0), (1, .int p0), (2, .int p1)] := hl
  refine lv_iload_n hx hb dX5_isSign_0 rfl (lv_at hl 1 rfl) ?_
  refine vp_callSi (W.runS (As := [.int p0]) (rest := []) ⟨hx, hb, hml, hown, hts⟩ (kX5_isStream l p0) (va_cwS 1 hts gX5_isSign_X5_isStream rfl rfl rfl (by decide +kernel) ⟨Nat.le_of_ble_eq_true rfl, Nat.le_of_ble_eq_true rfl⟩) ⟨fun a U g mk q => q, fun U hU hW => ⟨rfl, trivial⟩⟩ rfl rfl hl.1 rfl (lv_room (Nat.le_of_ble_eq_true rfl)) dX5_isSign_1 ⟨Nat.le_of_ble_eq_true rfl, Nat.le_of_ble_eq_true rfl⟩) (fun r_1 hwr_1 => ?_)
  rcases hwr_1 with ⟨rfl, hwr_1⟩ | ⟨rfl, hwr_1⟩
  · refine lv_if_eq (tgt := 34) hx hb dX5_isSign_4 (by decide) (fun c_2 => False.elim (by revert c_2; decide)) (fun _ => ?_)
    refine lv_aload_n hx hb dX5_isSign_7 rfl (lv_at hl 0 rfl) ?_
    refine va_get (D := (dC, dI)) (ci := 4) (v := .ref g1) (C := RX5) (T := TX5) (N := 23) hx hb hts (by decide +kernel) hown hK hP 0 rfl rfl 0 (by decide) (hts (.fieldLink RX5 7 "SignFormsModel" "isOpen" "[Z") (by decide +kernel)) (fun _ h9 => h9) rfl dX5_isSign_8 ?_
    refine lv_iload_n hx hb dX5_isSign_11 rfl (lv_at hl 1 rfl) ?_
    refine va_zald hx hb hK hP 1 0 rfl rfl (vp_in_iff.mpr (by omega)) dX5_isSign_12 ?_
    refine W.eq (g2 := F0 m 13 ls [.int 0]) rfl ?_
    refine lv_if_eq (tgt := 34) hx hb dX5_isSign_13 (by decide) (fun _ => ?_) (fun c_3 => False.elim (by revert c_3; decide))
    refine lv_iconst (v := 0) hx hb dX5_isSign_34 (by decide) ?_
    exact W.zret (v := 0) hx hb hr rfl (fun t ht hW => ⟨0, rfl, rfl, ht⟩) (fun q h => by cases h) dX5_isSign_35
  · refine lv_if_eq (tgt := 34) hx hb dX5_isSign_4 (by decide) (fun _ => ?_) (fun c_4 => False.elim (by revert c_4; decide))
    refine lv_iconst (v := 0) hx hb dX5_isSign_34 (by decide) ?_
    exact W.zret (v := 0) hx hb hr rfl (fun t ht hW => ⟨0, rfl, rfl, ht⟩) (fun q h => by cases h) dX5_isSign_35
set_option maxHeartbeats 4000000 in
set_option maxRecDepth 100000 in
theorem kX5_put (l : Launch) (dC : Nat → ClassId) (dI : Nat → Nat → Nat) (g0 g1 g2 g3 g4 g5 g6 g7 g8 g9 g10 g11 g12 g13 g14 g15 g16 g17 g18 g19 : Nat) (kZ : ClassId) (p0 : Int32) (w0 : Int64) (p1 : Int32) : Met l yX5_put wsX5_put ({ frames := 1, cells := 0, slots := 0, locals := 21 } : Room) (va_Pc [.ref g0, .int p0, .long w0, .int p1] (fun U => va_P (dC, dI) vwCl [(g0, .inr (4, [.ref g1, .ref g2, .ref g3, .ref g4, .ref g5, .ref g6, .ref g7, .ref g8, .ref g9, .ref g10, .ref g11, .ref g12, .ref g13, .ref g14, .ref g15, .ref g16, .ref g17, .ref g18, .int 0, .ref g19, .int 0, .int 0, .int 0])), (g1, .inl (kZ, 4, .inl (fun _ => 0)))] U.heap ∧ va_K (dC, dI) vwCl [(kZ, .boolean)] U)) (vp_Si (fun r => r = an_put p0 p1)) 0 0 (fun _ => False) := by
  refine Met.ofW (cc := cX5_put) (maxL := 6) (ret := (some .int)) (by decide) rfl ?_
  intro p e s m args below meth c s₁ B hml hv
  obtain ⟨rfl, hP, hK⟩ := hv
  have hx := B.exec
  have hb := B.bytes
  have hr := B.returns
  have hts := atoms_spec (ws := wsX5_put) B.pre
  have hown : s.vm.findClass RX5 = some m.cls := findClass_of_methodNamed B.named
  have hlocks := B.notSynchronized
  have hl := lv_entry ([.ref g0, .int p0, .long w0, .int p1]) (n := 6) (Nat.le_of_ble_eq_true rfl)
  rw [lg_entry_eq]
  generalize (lg_sl ([.ref g0, .int p0, .long w0, .int p1]) ++ List.replicate (6 - (lg_sl ([.ref g0, .int p0, .long w0, .int p1])).length) Slot.unset).toArray = ls at hl ⊢
  have hl : lv_has ls 6 [(0, .ref g0), (1, .int p0), (2, .long w0), (4, .int p1)] := hl
  refine lv_iload_n hx hb dX5_put_0 rfl (lv_at hl 1 rfl) ?_
  refine vp_callSi (W.runS (As := [.int p0]) (rest := []) ⟨hx, hb, hml, hown, hts⟩ (kX5_isStream l p0) (va_cwS 1 hts gX5_put_X5_isStream rfl rfl rfl (by decide +kernel) ⟨Nat.le_of_ble_eq_true rfl, Nat.le_of_ble_eq_true rfl⟩) ⟨fun a U g mk q => q, fun U hU hW => ⟨rfl, trivial⟩⟩ rfl rfl hl.1 rfl (lv_room (Nat.le_of_ble_eq_true rfl)) dX5_put_1 ⟨Nat.le_of_ble_eq_true rfl, Nat.le_of_ble_eq_true rfl⟩) (fun r_1 hwr_1 => ?_)
  rcases hwr_1 with ⟨rfl, hwr_1⟩ | ⟨rfl, hwr_1⟩
  · refine lv_if_eq (tgt := 20) hx hb dX5_put_4 (by decide) (fun c_2 => False.elim (by revert c_2; decide)) (fun _ => ?_)
    refine lv_iload hx hb dX5_put_7 (lv_at hl 3 rfl) ?_
    refine lv_iconst (v := 1) hx hb dX5_put_9 (by decide) ?_
    refine lv_icmp_lt (tgt := 20) hx hb dX5_put_10 (by decide) (fun c_3 => ?_) (fun c_3 => ?_)
    · have zc_3 : p1.toInt < (1 : Int) := zz_lt rfl (by decide) c_3
      refine lv_iconst (v := (-1)) hx hb dX5_put_20 (by decide) ?_
      exact W.iret (v := (-1)) hx hb hr (fun t ht hW => ⟨(-1), rfl, by unfold an_put; first | rw [if_pos (by omega)] | rw [if_neg (by omega)], ht⟩) (fun q h => by cases h) dX5_put_21
    · have zc_3 : p1.toInt ≥ (1 : Int) := zz_nlt rfl (by decide) c_3
      refine lv_iload hx hb dX5_put_13 (lv_at hl 3 rfl) ?_
      refine lv_bipush (v := 8) hx hb dX5_put_15 (by decide) ?_
      refine lv_icmp_le (tgt := 22) hx hb dX5_put_17 (by decide) (fun c_4 => ?_) (fun c_4 => ?_)
      · have zc_4 : p1.toInt ≤ (8 : Int) := zz_le rfl (by decide) c_4
        refine lv_aload_n hx hb dX5_put_22 rfl (lv_at hl 0 rfl) ?_
        refine lv_iload_n hx hb dX5_put_23 rfl (lv_at hl 1 rfl) ?_
        have hPc := hP.sub (ws' := [(g0, .inr (4, [.ref g1, .ref g2, .ref g3, .ref g4, .ref g5, .ref g6, .ref g7, .ref g8, .ref g9, .ref g10, .ref g11, .ref g12, .ref g13, .ref g14, .ref g15, .ref g16, .ref g17, .ref g18, .int 0, .ref g19, .int 0, .int 0, .int 0])), (g1, .inl (kZ, 4, .inl (fun _ => 0)))]) [0, 1] rfl
        have hKc := hK.sub (tys' := [(kZ, .boolean)]) [0] rfl
        refine vp_callSi (W.runV (As := [.int p0]) (rest := []) ⟨hx, hb, hml, hown, hts⟩ (kX5_takes l dC dI g0 g1 g2 g3 g4 g5 g6 g7 g8 g9 g10 g11 g12 g13 g14 g15 g16 g17 g18 g19 kZ p0 (by omega)) (cwV 1 hts gX5_put_X5_takes rfl rfl rfl (by decide +kernel) ⟨Nat.le_of_ble_eq_true rfl, Nat.le_of_ble_eq_true rfl⟩) ⟨fun a U g mk q => by obtain ⟨q0, qP, qK⟩ := q; exact ⟨q0, qP, va_K.moved (u := U) (U := U.calling g mk a) (Vm.Alike.refl U.vm) qK⟩, va_recv hKc hPc (ci := 4) (q0 := 0) rfl rfl, fun U hU hW => ⟨rfl, by rw [hU]; exact hPc, va_K.moved hW.alike hKc⟩⟩ rfl rfl hl.1 rfl (lv_room (Nat.le_of_ble_eq_true rfl)) dX5_put_24 ⟨Nat.le_of_ble_eq_true rfl, Nat.le_of_ble_eq_true rfl⟩) (fun r_5 hwr_5 => ?_)
        subst hwr_5
        refine lv_if_ne (tgt := 33) hx hb dX5_put_27 (by decide) (fun c_6 => False.elim (by revert c_6; decide)) (fun _ => ?_)
        refine lv_bipush (v := (-2)) hx hb dX5_put_30 (by decide) ?_
        exact W.iret (v := (-2)) hx hb hr (fun t ht hW => ⟨(-2), rfl, by unfold an_put; first | rw [if_pos (by omega)] | rw [if_neg (by omega)], ht⟩) (fun q h => by cases h) dX5_put_32
      · have zc_4 : p1.toInt > (8 : Int) := zz_nle rfl (by decide) c_4
        refine lv_iconst (v := (-1)) hx hb dX5_put_20 (by decide) ?_
        exact W.iret (v := (-1)) hx hb hr (fun t ht hW => ⟨(-1), rfl, by unfold an_put; first | rw [if_pos (by omega)] | rw [if_neg (by omega)], ht⟩) (fun q h => by cases h) dX5_put_21
  · refine lv_if_eq (tgt := 20) hx hb dX5_put_4 (by decide) (fun _ => ?_) (fun c_7 => False.elim (by revert c_7; decide))
    refine lv_iconst (v := (-1)) hx hb dX5_put_20 (by decide) ?_
    exact W.iret (v := (-1)) hx hb hr (fun t ht hW => ⟨(-1), rfl, by unfold an_put; first | rw [if_pos (by omega)] | rw [if_neg (by omega)], ht⟩) (fun q h => by cases h) dX5_put_21
set_option maxHeartbeats 4000000 in
set_option maxRecDepth 100000 in
theorem kX5_pour (l : Launch) (dC : Nat → ClassId) (dI : Nat → Nat → Nat) (g0 g1 g2 g3 g4 g5 g6 g7 g8 g9 g10 g11 g12 g13 g14 g15 g16 g17 g18 g19 : Nat) (kZ : ClassId) (p0 : Int32) (p1 : Int32) (p2 : Int32) : Met l yX5_pour wsX5_pour ({ frames := 1, cells := 0, slots := 0, locals := 21 } : Room) (va_Pc [.ref g0, .int p0, .int p1, .int p2] (fun U => va_P (dC, dI) vwCl [(g0, .inr (4, [.ref g1, .ref g2, .ref g3, .ref g4, .ref g5, .ref g6, .ref g7, .ref g8, .ref g9, .ref g10, .ref g11, .ref g12, .ref g13, .ref g14, .ref g15, .ref g16, .ref g17, .ref g18, .int 0, .ref g19, .int 0, .int 0, .int 0])), (g1, .inl (kZ, 4, .inl (fun _ => 0)))] U.heap ∧ va_K (dC, dI) vwCl [(kZ, .boolean)] U)) (vp_Si (fun r => r = an_pour p0 p1 p2)) 0 0 (fun _ => False) := by
  refine Met.ofW (cc := cX5_pour) (maxL := 6) (ret := (some .int)) (by decide) rfl ?_
  intro p e s m args below meth c s₁ B hml hv
  obtain ⟨rfl, hP, hK⟩ := hv
  have hx := B.exec
  have hb := B.bytes
  have hr := B.returns
  have hts := atoms_spec (ws := wsX5_pour) B.pre
  have hown : s.vm.findClass RX5 = some m.cls := findClass_of_methodNamed B.named
  have hlocks := B.notSynchronized
  have hl := lv_entry ([.ref g0, .int p0, .int p1, .int p2]) (n := 6) (Nat.le_of_ble_eq_true rfl)
  rw [lg_entry_eq]
  generalize (lg_sl ([.ref g0, .int p0, .int p1, .int p2]) ++ List.replicate (6 - (lg_sl ([.ref g0, .int p0, .int p1, .int p2])).length) Slot.unset).toArray = ls at hl ⊢
  have hl : lv_has ls 6 [(0, .ref g0), (1, .int p0), (2, .int p1), (3, .int p2)] := hl
  refine lv_iload_n hx hb dX5_pour_0 rfl (lv_at hl 1 rfl) ?_
  refine vp_callSi (W.runS (As := [.int p0]) (rest := []) ⟨hx, hb, hml, hown, hts⟩ (kX5_isStream l p0) (va_cwS 1 hts gX5_pour_X5_isStream rfl rfl rfl (by decide +kernel) ⟨Nat.le_of_ble_eq_true rfl, Nat.le_of_ble_eq_true rfl⟩) ⟨fun a U g mk q => q, fun U hU hW => ⟨rfl, trivial⟩⟩ rfl rfl hl.1 rfl (lv_room (Nat.le_of_ble_eq_true rfl)) dX5_pour_1 ⟨Nat.le_of_ble_eq_true rfl, Nat.le_of_ble_eq_true rfl⟩) (fun r_1 hwr_1 => ?_)
  rcases hwr_1 with ⟨rfl, hwr_1⟩ | ⟨rfl, hwr_1⟩
  · refine lv_if_eq (tgt := 23) hx hb dX5_pour_4 (by decide) (fun c_2 => False.elim (by revert c_2; decide)) (fun _ => ?_)
    refine lv_iload_n hx hb dX5_pour_7 rfl (lv_at hl 2 rfl) ?_
    refine lv_if_lt (tgt := 23) hx hb dX5_pour_8 (by decide) (fun c_3 => ?_) (fun c_3 => ?_)
    · have zc_3 : p1.toInt < (0 : Int) := zz_lt rfl (by decide) c_3
      refine lv_iconst (v := (-1)) hx hb dX5_pour_23 (by decide) ?_
      exact W.iret (v := (-1)) hx hb hr (fun t ht hW => ⟨(-1), rfl, by unfold an_pour; first | rw [if_pos (by omega)] | rw [if_neg (by omega)], ht⟩) (fun q h => by cases h) dX5_pour_24
    · have zc_3 : p1.toInt ≥ (0 : Int) := zz_nlt rfl (by decide) c_3
      refine lv_iload_n hx hb dX5_pour_11 rfl (lv_at hl 2 rfl) ?_
      refine lv_aload_n hx hb dX5_pour_12 rfl (lv_at hl 0 rfl) ?_
      refine va_get (D := (dC, dI)) (ci := 4) (v := .int 0) (C := RX5) (T := TX5) (N := 23) hx hb hts (by decide +kernel) hown hK hP 0 rfl rfl 18 (by decide) (hts (.fieldLink RX5 68 "SignFormsModel" "outSize" "I") (by decide +kernel)) (fun _ h9 => h9) rfl dX5_pour_13 ?_
      refine lv_icmp_gt (tgt := 23) hx hb dX5_pour_16 (by decide) (fun c_4 => ?_) (fun c_4 => ?_)
      · have zc_4 : (0 : Int) < p1.toInt := zz_lt (by decide) rfl c_4
        refine lv_iconst (v := (-1)) hx hb dX5_pour_23 (by decide) ?_
        exact W.iret (v := (-1)) hx hb hr (fun t ht hW => ⟨(-1), rfl, by unfold an_pour; first | rw [if_pos (by omega)] | rw [if_neg (by omega)], ht⟩) (fun q h => by cases h) dX5_pour_24
      · have zc_4 : (0 : Int) ≥ p1.toInt := zz_nlt (by decide) rfl c_4
        refine lv_iload_n hx hb dX5_pour_19 rfl (lv_at hl 3 rfl) ?_
        refine lv_if_ge (tgt := 25) hx hb dX5_pour_20 (by decide) (fun c_5 => ?_) (fun c_5 => ?_)
        · have zc_5 : (0 : Int) ≤ p2.toInt := zz_le (by decide) rfl c_5
          refine lv_aload_n hx hb dX5_pour_25 rfl (lv_at hl 0 rfl) ?_
          refine lv_iload_n hx hb dX5_pour_26 rfl (lv_at hl 1 rfl) ?_
          have hPc := hP.sub (ws' := [(g0, .inr (4, [.ref g1, .ref g2, .ref g3, .ref g4, .ref g5, .ref g6, .ref g7, .ref g8, .ref g9, .ref g10, .ref g11, .ref g12, .ref g13, .ref g14, .ref g15, .ref g16, .ref g17, .ref g18, .int 0, .ref g19, .int 0, .int 0, .int 0])), (g1, .inl (kZ, 4, .inl (fun _ => 0)))]) [0, 1] rfl
          have hKc := hK.sub (tys' := [(kZ, .boolean)]) [0] rfl
          refine vp_callSi (W.runV (As := [.int p0]) (rest := []) ⟨hx, hb, hml, hown, hts⟩ (kX5_takes l dC dI g0 g1 g2 g3 g4 g5 g6 g7 g8 g9 g10 g11 g12 g13 g14 g15 g16 g17 g18 g19 kZ p0 (by omega)) (cwV 1 hts gX5_pour_X5_takes rfl rfl rfl (by decide +kernel) ⟨Nat.le_of_ble_eq_true rfl, Nat.le_of_ble_eq_true rfl⟩) ⟨fun a U g mk q => by obtain ⟨q0, qP, qK⟩ := q; exact ⟨q0, qP, va_K.moved (u := U) (U := U.calling g mk a) (Vm.Alike.refl U.vm) qK⟩, va_recv hKc hPc (ci := 4) (q0 := 0) rfl rfl, fun U hU hW => ⟨rfl, by rw [hU]; exact hPc, va_K.moved hW.alike hKc⟩⟩ rfl rfl hl.1 rfl (lv_room (Nat.le_of_ble_eq_true rfl)) dX5_pour_27 ⟨Nat.le_of_ble_eq_true rfl, Nat.le_of_ble_eq_true rfl⟩) (fun r_6 hwr_6 => ?_)
          subst hwr_6
          refine lv_if_ne (tgt := 36) hx hb dX5_pour_30 (by decide) (fun c_7 => False.elim (by revert c_7; decide)) (fun _ => ?_)
          refine lv_bipush (v := (-2)) hx hb dX5_pour_33 (by decide) ?_
          exact W.iret (v := (-2)) hx hb hr (fun t ht hW => ⟨(-2), rfl, by unfold an_pour; first | rw [if_pos (by omega)] | rw [if_neg (by omega)], ht⟩) (fun q h => by cases h) dX5_pour_35
        · have zc_5 : (0 : Int) > p2.toInt := zz_nle (by decide) rfl c_5
          refine lv_iconst (v := (-1)) hx hb dX5_pour_23 (by decide) ?_
          exact W.iret (v := (-1)) hx hb hr (fun t ht hW => ⟨(-1), rfl, by unfold an_pour; first | rw [if_pos (by omega)] | rw [if_neg (by omega)], ht⟩) (fun q h => by cases h) dX5_pour_24
  · refine lv_if_eq (tgt := 23) hx hb dX5_pour_4 (by decide) (fun _ => ?_) (fun c_8 => False.elim (by revert c_8; decide))
    refine lv_iconst (v := (-1)) hx hb dX5_pour_23 (by decide) ?_
    exact W.iret (v := (-1)) hx hb hr (fun t ht hW => ⟨(-1), rfl, by unfold an_pour; first | rw [if_pos (by omega)] | rw [if_neg (by omega)], ht⟩) (fun q h => by cases h) dX5_pour_24
set_option maxHeartbeats 4000000 in
set_option maxRecDepth 100000 in
theorem kX5_end (l : Launch) (dC : Nat → ClassId) (dI : Nat → Nat → Nat) (g0 g1 g2 g3 g4 g5 g6 g7 g8 g9 g10 g11 g12 g13 g14 g15 g16 g17 g18 g19 : Nat) (kZ : ClassId) (p0 : Int32) : Met l yX5_end wsX5_end ({ frames := 1, cells := 0, slots := 0, locals := 21 } : Room) (va_Pc [.ref g0, .int p0] (fun U => va_P (dC, dI) vwCl [(g0, .inr (4, [.ref g1, .ref g2, .ref g3, .ref g4, .ref g5, .ref g6, .ref g7, .ref g8, .ref g9, .ref g10, .ref g11, .ref g12, .ref g13, .ref g14, .ref g15, .ref g16, .ref g17, .ref g18, .int 0, .ref g19, .int 0, .int 0, .int 0])), (g1, .inl (kZ, 4, .inl (fun _ => 0)))] U.heap ∧ va_K (dC, dI) vwCl [(kZ, .boolean)] U)) (vp_Si (fun r => r = an_end p0)) 0 0 (fun _ => False) := by
  refine Met.ofW (cc := cX5_end) (maxL := 2) (ret := (some .int)) (by decide) rfl ?_
  intro p e s m args below meth c s₁ B hml hv
  obtain ⟨rfl, hP, hK⟩ := hv
  have hx := B.exec
  have hb := B.bytes
  have hr := B.returns
  have hts := atoms_spec (ws := wsX5_end) B.pre
  have hown : s.vm.findClass RX5 = some m.cls := findClass_of_methodNamed B.named
  have hlocks := B.notSynchronized
  have hl := lv_entry ([.ref g0, .int p0]) (n := 2) (Nat.le_of_ble_eq_true rfl)
  rw [lg_entry_eq]
  generalize (lg_sl ([.ref g0, .int p0]) ++ List.replicate (2 - (lg_sl ([.ref g0, .int p0])).length) Slot.unset).toArray = ls at hl ⊢
  have hl : lv_has ls 2 [(0, .ref g0), (1, .int p0)] := hl
  refine lv_iload_n hx hb dX5_end_0 rfl (lv_at hl 1 rfl) ?_
  refine vp_callSi (W.runS (As := [.int p0]) (rest := []) ⟨hx, hb, hml, hown, hts⟩ (kX5_isStream l p0) (va_cwS 1 hts gX5_end_X5_isStream rfl rfl rfl (by decide +kernel) ⟨Nat.le_of_ble_eq_true rfl, Nat.le_of_ble_eq_true rfl⟩) ⟨fun a U g mk q => q, fun U hU hW => ⟨rfl, trivial⟩⟩ rfl rfl hl.1 rfl (lv_room (Nat.le_of_ble_eq_true rfl)) dX5_end_1 ⟨Nat.le_of_ble_eq_true rfl, Nat.le_of_ble_eq_true rfl⟩) (fun r_1 hwr_1 => ?_)
  rcases hwr_1 with ⟨rfl, hwr_1⟩ | ⟨rfl, hwr_1⟩
  · refine lv_if_ne (tgt := 9) hx hb dX5_end_4 (by decide) (fun _ => ?_) (fun c_2 => False.elim (by revert c_2; decide))
    refine lv_aload_n hx hb dX5_end_9 rfl (lv_at hl 0 rfl) ?_
    refine lv_iload_n hx hb dX5_end_10 rfl (lv_at hl 1 rfl) ?_
    have hPc := hP.sub (ws' := [(g0, .inr (4, [.ref g1, .ref g2, .ref g3, .ref g4, .ref g5, .ref g6, .ref g7, .ref g8, .ref g9, .ref g10, .ref g11, .ref g12, .ref g13, .ref g14, .ref g15, .ref g16, .ref g17, .ref g18, .int 0, .ref g19, .int 0, .int 0, .int 0])), (g1, .inl (kZ, 4, .inl (fun _ => 0)))]) [0, 1] rfl
    have hKc := hK.sub (tys' := [(kZ, .boolean)]) [0] rfl
    refine vp_callSi (W.runV (As := [.int p0]) (rest := []) ⟨hx, hb, hml, hown, hts⟩ (kX5_takes l dC dI g0 g1 g2 g3 g4 g5 g6 g7 g8 g9 g10 g11 g12 g13 g14 g15 g16 g17 g18 g19 kZ p0 (by omega)) (cwV 1 hts gX5_end_X5_takes rfl rfl rfl (by decide +kernel) ⟨Nat.le_of_ble_eq_true rfl, Nat.le_of_ble_eq_true rfl⟩) ⟨fun a U g mk q => by obtain ⟨q0, qP, qK⟩ := q; exact ⟨q0, qP, va_K.moved (u := U) (U := U.calling g mk a) (Vm.Alike.refl U.vm) qK⟩, va_recv hKc hPc (ci := 4) (q0 := 0) rfl rfl, fun U hU hW => ⟨rfl, by rw [hU]; exact hPc, va_K.moved hW.alike hKc⟩⟩ rfl rfl hl.1 rfl (lv_room (Nat.le_of_ble_eq_true rfl)) dX5_end_11 ⟨Nat.le_of_ble_eq_true rfl, Nat.le_of_ble_eq_true rfl⟩) (fun r_3 hwr_3 => ?_)
    subst hwr_3
    refine lv_if_ne (tgt := 20) hx hb dX5_end_14 (by decide) (fun c_4 => False.elim (by revert c_4; decide)) (fun _ => ?_)
    refine lv_bipush (v := (-2)) hx hb dX5_end_17 (by decide) ?_
    exact W.iret (v := (-2)) hx hb hr (fun t ht hW => ⟨(-2), rfl, by unfold an_end; first | rw [if_pos (by omega)] | rw [if_neg (by omega)], ht⟩) (fun q h => by cases h) dX5_end_19
  · refine lv_if_ne (tgt := 9) hx hb dX5_end_4 (by decide) (fun c_5 => False.elim (by revert c_5; decide)) (fun _ => ?_)
    refine lv_iconst (v := (-1)) hx hb dX5_end_7 (by decide) ?_
    exact W.iret (v := (-1)) hx hb hr (fun t ht hW => ⟨(-1), rfl, by unfold an_end; first | rw [if_pos (by omega)] | rw [if_neg (by omega)], ht⟩) (fun q h => by cases h) dX5_end_8
set_option maxHeartbeats 4000000 in
set_option maxRecDepth 100000 in
theorem kX5_about (l : Launch) (dC : Nat → ClassId) (dI : Nat → Nat → Nat) (g0 g1 g2 g3 g4 g5 g6 g7 g8 g9 g10 g11 g12 g13 g14 g15 g16 g17 g18 g19 : Nat) (kZ : ClassId) (p0 : Int32) (p1 : Int32) : Met l yX5_about wsX5_about ({ frames := 1, cells := 0, slots := 0, locals := 20 } : Room) (va_Pc [.ref g0, .int p0, .int p1] (fun U => va_P (dC, dI) vwCl [(g0, .inr (4, [.ref g1, .ref g2, .ref g3, .ref g4, .ref g5, .ref g6, .ref g7, .ref g8, .ref g9, .ref g10, .ref g11, .ref g12, .ref g13, .ref g14, .ref g15, .ref g16, .ref g17, .ref g18, .int 0, .ref g19, .int 0, .int 0, .int 0])), (g1, .inl (kZ, 4, .inl (fun _ => 0)))] U.heap ∧ va_K (dC, dI) vwCl [(kZ, .boolean)] U)) (vp_Si (fun r => r = an_about p0 p1)) 0 0 (fun _ => False) := by
  refine Met.ofW (cc := cX5_about) (maxL := 3) (ret := (some .int)) (by decide) rfl ?_
  intro p e s m args below meth c s₁ B hml hv
  obtain ⟨rfl, hP, hK⟩ := hv
  have hx := B.exec
  have hb := B.bytes
  have hr := B.returns
  have hts := atoms_spec (ws := wsX5_about) B.pre
  have hown : s.vm.findClass RX5 = some m.cls := findClass_of_methodNamed B.named
  have hlocks := B.notSynchronized
  have hl := lv_entry ([.ref g0, .int p0, .int p1]) (n := 3) (Nat.le_of_ble_eq_true rfl)
  rw [lg_entry_eq]
  generalize (lg_sl ([.ref g0, .int p0, .int p1]) ++ List.replicate (3 - (lg_sl ([.ref g0, .int p0, .int p1])).length) Slot.unset).toArray = ls at hl ⊢
  have hl : lv_has ls 3 [(0, .ref g0), (1, .int p0), (2, .int p1)] := hl
  refine lv_iload_n hx hb dX5_about_0 rfl (lv_at hl 1 rfl) ?_
  refine vp_callSi (W.runS (As := [.int p0]) (rest := []) ⟨hx, hb, hml, hown, hts⟩ (kX5_isStream l p0) (va_cwS 1 hts gX5_about_X5_isStream rfl rfl rfl (by decide +kernel) ⟨Nat.le_of_ble_eq_true rfl, Nat.le_of_ble_eq_true rfl⟩) ⟨fun a U g mk q => q, fun U hU hW => ⟨rfl, trivial⟩⟩ rfl rfl hl.1 rfl (lv_room (Nat.le_of_ble_eq_true rfl)) dX5_about_1 ⟨Nat.le_of_ble_eq_true rfl, Nat.le_of_ble_eq_true rfl⟩) (fun r_1 hwr_1 => ?_)
  rcases hwr_1 with ⟨rfl, hwr_1⟩ | ⟨rfl, hwr_1⟩
  · refine lv_if_eq (tgt := 17) hx hb dX5_about_4 (by decide) (fun c_2 => False.elim (by revert c_2; decide)) (fun _ => ?_)
    refine lv_iload_n hx hb dX5_about_7 rfl (lv_at hl 2 rfl) ?_
    refine lv_if_lt (tgt := 17) hx hb dX5_about_8 (by decide) (fun c_3 => ?_) (fun c_3 => ?_)
    · have zc_3 : p1.toInt < (0 : Int) := zz_lt rfl (by decide) c_3
      refine lv_iconst (v := (-1)) hx hb dX5_about_17 (by decide) ?_
      exact W.iret (v := (-1)) hx hb hr (fun t ht hW => ⟨(-1), rfl, by unfold an_about; first | rw [if_pos (by omega)] | rw [if_neg (by omega)], ht⟩) (fun q h => by cases h) dX5_about_18
    · have zc_3 : p1.toInt ≥ (0 : Int) := zz_nlt rfl (by decide) c_3
      refine lv_iload_n hx hb dX5_about_11 rfl (lv_at hl 2 rfl) ?_
      refine lv_bipush (v := 8) hx hb dX5_about_12 (by decide) ?_
      refine lv_icmp_le (tgt := 19) hx hb dX5_about_14 (by decide) (fun c_4 => ?_) (fun c_4 => ?_)
      · have zc_4 : p1.toInt ≤ (8 : Int) := zz_le rfl (by decide) c_4
        refine lv_aload_n hx hb dX5_about_19 rfl (lv_at hl 0 rfl) ?_
        refine va_get (D := (dC, dI)) (ci := 4) (v := .ref g1) (C := RX5) (T := TX5) (N := 23) hx hb hts (by decide +kernel) hown hK hP 0 rfl rfl 0 (by decide) (hts (.fieldLink RX5 7 "SignFormsModel" "isOpen" "[Z") (by decide +kernel)) (fun _ h9 => h9) rfl dX5_about_20 ?_
        refine lv_iload_n hx hb dX5_about_23 rfl (lv_at hl 1 rfl) ?_
        refine va_zald hx hb hK hP 1 0 rfl rfl (vp_in_iff.mpr (by omega)) dX5_about_24 ?_
        refine W.eq (g2 := F0 m 25 ls [.int 0]) rfl ?_
        refine lv_if_ne (tgt := 31) hx hb dX5_about_25 (by decide) (fun c_5 => False.elim (by revert c_5; decide)) (fun _ => ?_)
        refine lv_bipush (v := (-2)) hx hb dX5_about_28 (by decide) ?_
        exact W.iret (v := (-2)) hx hb hr (fun t ht hW => ⟨(-2), rfl, by unfold an_about; first | rw [if_pos (by omega)] | rw [if_neg (by omega)], ht⟩) (fun q h => by cases h) dX5_about_30
      · have zc_4 : p1.toInt > (8 : Int) := zz_nle rfl (by decide) c_4
        refine lv_iconst (v := (-1)) hx hb dX5_about_17 (by decide) ?_
        exact W.iret (v := (-1)) hx hb hr (fun t ht hW => ⟨(-1), rfl, by unfold an_about; first | rw [if_pos (by omega)] | rw [if_neg (by omega)], ht⟩) (fun q h => by cases h) dX5_about_18
  · refine lv_if_eq (tgt := 17) hx hb dX5_about_4 (by decide) (fun _ => ?_) (fun c_6 => False.elim (by revert c_6; decide))
    refine lv_iconst (v := (-1)) hx hb dX5_about_17 (by decide) ?_
    exact W.iret (v := (-1)) hx hb hr (fun t ht hW => ⟨(-1), rfl, by unfold an_about; first | rw [if_pos (by omega)] | rw [if_neg (by omega)], ht⟩) (fun q h => by cases h) dX5_about_18
set_option maxHeartbeats 4000000 in
set_option maxRecDepth 100000 in
theorem kX5_sign (l : Launch) (dC : Nat → ClassId) (dI : Nat → Nat → Nat) (g0 g1 g2 g3 g4 g5 g6 g7 g8 g9 g10 g11 g12 g13 g14 g15 g16 g17 g18 g19 : Nat) (kZ : ClassId) (p0 : Int32) (p1 : Int32) : Met l yX5_sign wsX5_sign ({ frames := 2, cells := 0, slots := 0, locals := 42 } : Room) (va_Pc [.ref g0, .int p0, .int p1] (fun U => va_P (dC, dI) vwCl [(g0, .inr (4, [.ref g1, .ref g2, .ref g3, .ref g4, .ref g5, .ref g6, .ref g7, .ref g8, .ref g9, .ref g10, .ref g11, .ref g12, .ref g13, .ref g14, .ref g15, .ref g16, .ref g17, .ref g18, .int 0, .ref g19, .int 0, .int 0, .int 0])), (g1, .inl (kZ, 4, .inl (fun _ => 0)))] U.heap ∧ va_K (dC, dI) vwCl [(kZ, .boolean)] U)) (vp_Si (fun r => r = -1)) 0 0 (fun _ => False) := by
  refine Met.ofW (cc := cX5_sign) (maxL := 3) (ret := (some .int)) (by decide) rfl ?_
  intro p e s m args below meth c s₁ B hml hv
  obtain ⟨rfl, hP, hK⟩ := hv
  have hx := B.exec
  have hb := B.bytes
  have hr := B.returns
  have hts := atoms_spec (ws := wsX5_sign) B.pre
  have hown : s.vm.findClass RX5 = some m.cls := findClass_of_methodNamed B.named
  have hlocks := B.notSynchronized
  have hl := lv_entry ([.ref g0, .int p0, .int p1]) (n := 3) (Nat.le_of_ble_eq_true rfl)
  rw [lg_entry_eq]
  generalize (lg_sl ([.ref g0, .int p0, .int p1]) ++ List.replicate (3 - (lg_sl ([.ref g0, .int p0, .int p1])).length) Slot.unset).toArray = ls at hl ⊢
  have hl : lv_has ls 3 [(0, .ref g0), (1, .int p0), (2, .int p1)] := hl
  refine lv_aload_n hx hb dX5_sign_0 rfl (lv_at hl 0 rfl) ?_
  refine lv_iload_n hx hb dX5_sign_1 rfl (lv_at hl 1 rfl) ?_
  refine lv_iload_n hx hb dX5_sign_2 rfl (lv_at hl 2 rfl) ?_
  have hPc := hP.sub (ws' := [(g0, .inr (4, [.ref g1, .ref g2, .ref g3, .ref g4, .ref g5, .ref g6, .ref g7, .ref g8, .ref g9, .ref g10, .ref g11, .ref g12, .ref g13, .ref g14, .ref g15, .ref g16, .ref g17, .ref g18, .int 0, .ref g19, .int 0, .int 0, .int 0])), (g1, .inl (kZ, 4, .inl (fun _ => 0)))]) [0, 1] rfl
  have hKc := hK.sub (tys' := [(kZ, .boolean)]) [0] rfl
  refine vp_callSi (W.runV (As := [.int p0, .int p1]) (rest := []) ⟨hx, hb, hml, hown, hts⟩ (kX5_isSign l dC dI g0 g1 g2 g3 g4 g5 g6 g7 g8 g9 g10 g11 g12 g13 g14 g15 g16 g17 g18 g19 kZ p0 p1) (cwV 2 hts gX5_sign_X5_isSign rfl rfl rfl (by decide +kernel) ⟨Nat.le_of_ble_eq_true rfl, Nat.le_of_ble_eq_true rfl⟩) ⟨fun a U g mk q => by obtain ⟨q0, qP, qK⟩ := q; exact ⟨q0, qP, va_K.moved (u := U) (U := U.calling g mk a) (Vm.Alike.refl U.vm) qK⟩, va_recv hKc hPc (ci := 4) (q0 := 0) rfl rfl, fun U hU hW => ⟨rfl, by rw [hU]; exact hPc, va_K.moved hW.alike hKc⟩⟩ rfl rfl hl.1 rfl (lv_room (Nat.le_of_ble_eq_true rfl)) dX5_sign_3 ⟨Nat.le_of_ble_eq_true rfl, Nat.le_of_ble_eq_true rfl⟩) (fun r_1 hwr_1 => ?_)
  subst hwr_1
  refine lv_if_eq (tgt := 24) hx hb dX5_sign_6 (by decide) (fun _ => ?_) (fun c_2 => False.elim (by revert c_2; decide))
  refine lv_iconst (v := (-1)) hx hb dX5_sign_24 (by decide) ?_
  exact W.iret (v := (-1)) hx hb hr (fun t ht hW => ⟨(-1), rfl, rfl, ht⟩) (fun q h => by cases h) dX5_sign_25
set_option maxHeartbeats 4000000 in
set_option maxRecDepth 100000 in
theorem kX5_placed (l : Launch) (dC : Nat → ClassId) (dI : Nat → Nat → Nat) (g0 g1 g2 g3 g4 g5 g6 g7 g8 g9 g10 g11 g12 g13 g14 g15 g16 g17 g18 g19 : Nat) (kZ : ClassId) (p0 : Int32) (p1 : Int32) (p2 : Int32) : Met l yX5_placed wsX5_placed ({ frames := 2, cells := 0, slots := 0, locals := 42 } : Room) (va_Pc [.ref g0, .int p0, .int p1, .int p2] (fun U => va_P (dC, dI) vwCl [(g0, .inr (4, [.ref g1, .ref g2, .ref g3, .ref g4, .ref g5, .ref g6, .ref g7, .ref g8, .ref g9, .ref g10, .ref g11, .ref g12, .ref g13, .ref g14, .ref g15, .ref g16, .ref g17, .ref g18, .int 0, .ref g19, .int 0, .int 0, .int 0])), (g1, .inl (kZ, 4, .inl (fun _ => 0)))] U.heap ∧ va_K (dC, dI) vwCl [(kZ, .boolean)] U)) (vp_Si (fun r => r = -1)) 0 0 (fun _ => False) := by
  refine Met.ofW (cc := cX5_placed) (maxL := 5) (ret := (some .int)) (by decide) rfl ?_
  intro p e s m args below meth c s₁ B hml hv
  obtain ⟨rfl, hP, hK⟩ := hv
  have hx := B.exec
  have hb := B.bytes
  have hr := B.returns
  have hts := atoms_spec (ws := wsX5_placed) B.pre
  have hown : s.vm.findClass RX5 = some m.cls := findClass_of_methodNamed B.named
  have hlocks := B.notSynchronized
  have hl := lv_entry ([.ref g0, .int p0, .int p1, .int p2]) (n := 5) (Nat.le_of_ble_eq_true rfl)
  rw [lg_entry_eq]
  generalize (lg_sl ([.ref g0, .int p0, .int p1, .int p2]) ++ List.replicate (5 - (lg_sl ([.ref g0, .int p0, .int p1, .int p2])).length) Slot.unset).toArray = ls at hl ⊢
  have hl : lv_has ls 5 [(0, .ref g0), (1, .int p0), (2, .int p1), (3, .int p2)] := hl
  refine lv_aload_n hx hb dX5_placed_0 rfl (lv_at hl 0 rfl) ?_
  refine lv_iload_n hx hb dX5_placed_1 rfl (lv_at hl 1 rfl) ?_
  refine lv_iload_n hx hb dX5_placed_2 rfl (lv_at hl 2 rfl) ?_
  have hPc := hP.sub (ws' := [(g0, .inr (4, [.ref g1, .ref g2, .ref g3, .ref g4, .ref g5, .ref g6, .ref g7, .ref g8, .ref g9, .ref g10, .ref g11, .ref g12, .ref g13, .ref g14, .ref g15, .ref g16, .ref g17, .ref g18, .int 0, .ref g19, .int 0, .int 0, .int 0])), (g1, .inl (kZ, 4, .inl (fun _ => 0)))]) [0, 1] rfl
  have hKc := hK.sub (tys' := [(kZ, .boolean)]) [0] rfl
  refine vp_callSi (W.runV (As := [.int p0, .int p1]) (rest := []) ⟨hx, hb, hml, hown, hts⟩ (kX5_isSign l dC dI g0 g1 g2 g3 g4 g5 g6 g7 g8 g9 g10 g11 g12 g13 g14 g15 g16 g17 g18 g19 kZ p0 p1) (cwV 2 hts gX5_placed_X5_isSign rfl rfl rfl (by decide +kernel) ⟨Nat.le_of_ble_eq_true rfl, Nat.le_of_ble_eq_true rfl⟩) ⟨fun a U g mk q => by obtain ⟨q0, qP, qK⟩ := q; exact ⟨q0, qP, va_K.moved (u := U) (U := U.calling g mk a) (Vm.Alike.refl U.vm) qK⟩, va_recv hKc hPc (ci := 4) (q0 := 0) rfl rfl, fun U hU hW => ⟨rfl, by rw [hU]; exact hPc, va_K.moved hW.alike hKc⟩⟩ rfl rfl hl.1 rfl (lv_room (Nat.le_of_ble_eq_true rfl)) dX5_placed_3 ⟨Nat.le_of_ble_eq_true rfl, Nat.le_of_ble_eq_true rfl⟩) (fun r_1 hwr_1 => ?_)
  subst hwr_1
  refine lv_if_eq (tgt := 18) hx hb dX5_placed_6 (by decide) (fun _ => ?_) (fun c_2 => False.elim (by revert c_2; decide))
  refine lv_iconst (v := (-1)) hx hb dX5_placed_18 (by decide) ?_
  exact W.iret (v := (-1)) hx hb hr (fun t ht hW => ⟨(-1), rfl, rfl, ht⟩) (fun q h => by cases h) dX5_placed_19
set_option maxHeartbeats 4000000 in
set_option maxRecDepth 100000 in
theorem kX5_at (l : Launch) (dC : Nat → ClassId) (dI : Nat → Nat → Nat) (g0 g1 g2 g3 g4 g5 g6 g7 g8 g9 g10 g11 g12 g13 g14 g15 g16 g17 g18 g19 : Nat) (kZ : ClassId) (p0 : Int32) (p1 : Int32) : Met l yX5_at wsX5_at ({ frames := 1, cells := 0, slots := 0, locals := 20 } : Room) (va_Pc [.ref g0, .int p0, .int p1] (fun U => va_P (dC, dI) vwCl [(g0, .inr (4, [.ref g1, .ref g2, .ref g3, .ref g4, .ref g5, .ref g6, .ref g7, .ref g8, .ref g9, .ref g10, .ref g11, .ref g12, .ref g13, .ref g14, .ref g15, .ref g16, .ref g17, .ref g18, .int 0, .ref g19, .int 0, .int 0, .int 0])), (g1, .inl (kZ, 4, .inl (fun _ => 0)))] U.heap ∧ va_K (dC, dI) vwCl [(kZ, .boolean)] U)) (vp_Si (fun r => r = -1)) 0 0 (fun _ => False) := by
  refine Met.ofW (cc := cX5_at) (maxL := 5) (ret := (some .int)) (by decide) rfl ?_
  intro p e s m args below meth c s₁ B hml hv
  obtain ⟨rfl, hP, hK⟩ := hv
  have hx := B.exec
  have hb := B.bytes
  have hr := B.returns
  have hts := atoms_spec (ws := wsX5_at) B.pre
  have hown : s.vm.findClass RX5 = some m.cls := findClass_of_methodNamed B.named
  have hlocks := B.notSynchronized
  have hl := lv_entry ([.ref g0, .int p0, .int p1]) (n := 5) (Nat.le_of_ble_eq_true rfl)
  rw [lg_entry_eq]
  generalize (lg_sl ([.ref g0, .int p0, .int p1]) ++ List.replicate (5 - (lg_sl ([.ref g0, .int p0, .int p1])).length) Slot.unset).toArray = ls at hl ⊢
  have hl : lv_has ls 5 [(0, .ref g0), (1, .int p0), (2, .int p1)] := hl
  refine lv_iload_n hx hb dX5_at_0 rfl (lv_at hl 1 rfl) ?_
  refine vp_callSi (W.runS (As := [.int p0]) (rest := []) ⟨hx, hb, hml, hown, hts⟩ (kX5_isStream l p0) (va_cwS 1 hts gX5_at_X5_isStream rfl rfl rfl (by decide +kernel) ⟨Nat.le_of_ble_eq_true rfl, Nat.le_of_ble_eq_true rfl⟩) ⟨fun a U g mk q => q, fun U hU hW => ⟨rfl, trivial⟩⟩ rfl rfl hl.1 rfl (lv_room (Nat.le_of_ble_eq_true rfl)) dX5_at_1 ⟨Nat.le_of_ble_eq_true rfl, Nat.le_of_ble_eq_true rfl⟩) (fun r_1 hwr_1 => ?_)
  rcases hwr_1 with ⟨rfl, hwr_1⟩ | ⟨rfl, hwr_1⟩
  · refine lv_if_eq (tgt := 16) hx hb dX5_at_4 (by decide) (fun c_2 => False.elim (by revert c_2; decide)) (fun _ => ?_)
    refine lv_aload_n hx hb dX5_at_7 rfl (lv_at hl 0 rfl) ?_
    refine va_get (D := (dC, dI)) (ci := 4) (v := .ref g1) (C := RX5) (T := TX5) (N := 23) hx hb hts (by decide +kernel) hown hK hP 0 rfl rfl 0 (by decide) (hts (.fieldLink RX5 7 "SignFormsModel" "isOpen" "[Z") (by decide +kernel)) (fun _ h9 => h9) rfl dX5_at_8 ?_
    refine lv_iload_n hx hb dX5_at_11 rfl (lv_at hl 1 rfl) ?_
    refine va_zald hx hb hK hP 1 0 rfl rfl (vp_in_iff.mpr (by omega)) dX5_at_12 ?_
    refine W.eq (g2 := F0 m 13 ls [.int 0]) rfl ?_
    refine lv_if_ne (tgt := 18) hx hb dX5_at_13 (by decide) (fun c_3 => False.elim (by revert c_3; decide)) (fun _ => ?_)
    refine lv_iconst (v := (-1)) hx hb dX5_at_16 (by decide) ?_
    exact W.iret (v := (-1)) hx hb hr (fun t ht hW => ⟨(-1), rfl, rfl, ht⟩) (fun q h => by cases h) dX5_at_17
  · refine lv_if_eq (tgt := 16) hx hb dX5_at_4 (by decide) (fun _ => ?_) (fun c_4 => False.elim (by revert c_4; decide))
    refine lv_iconst (v := (-1)) hx hb dX5_at_16 (by decide) ?_
    exact W.iret (v := (-1)) hx hb hr (fun t ht hW => ⟨(-1), rfl, rfl, ht⟩) (fun q h => by cases h) dX5_at_17
set_option maxHeartbeats 4000000 in
set_option maxRecDepth 100000 in
theorem kX5_write (l : Launch) (dC : Nat → ClassId) (dI : Nat → Nat → Nat) (g0 g1 g2 g3 g4 g5 g6 g7 g8 g9 g10 g11 g12 g13 g14 g15 g16 g17 g18 g19 : Nat) (kZ : ClassId) (p0 : Int32) (p1 : Int32) (p2 : Int32) : Met l yX5_write wsX5_write ({ frames := 1, cells := 0, slots := 0, locals := 20 } : Room) (va_Pc [.ref g0, .int p0, .int p1, .int p2] (fun U => va_P (dC, dI) vwCl [(g0, .inr (4, [.ref g1, .ref g2, .ref g3, .ref g4, .ref g5, .ref g6, .ref g7, .ref g8, .ref g9, .ref g10, .ref g11, .ref g12, .ref g13, .ref g14, .ref g15, .ref g16, .ref g17, .ref g18, .int 0, .ref g19, .int 0, .int 0, .int 0])), (g1, .inl (kZ, 4, .inl (fun _ => 0)))] U.heap ∧ va_K (dC, dI) vwCl [(kZ, .boolean)] U)) (vp_Si (fun r => r = an_write p0 p1)) 0 0 (fun _ => False) := by
  refine Met.ofW (cc := cX5_write) (maxL := 6) (ret := (some .int)) (by decide) rfl ?_
  intro p e s m args below meth c s₁ B hml hv
  obtain ⟨rfl, hP, hK⟩ := hv
  have hx := B.exec
  have hb := B.bytes
  have hr := B.returns
  have hts := atoms_spec (ws := wsX5_write) B.pre
  have hown : s.vm.findClass RX5 = some m.cls := findClass_of_methodNamed B.named
  have hlocks := B.notSynchronized
  have hl := lv_entry ([.ref g0, .int p0, .int p1, .int p2]) (n := 6) (Nat.le_of_ble_eq_true rfl)
  rw [lg_entry_eq]
  generalize (lg_sl ([.ref g0, .int p0, .int p1, .int p2]) ++ List.replicate (6 - (lg_sl ([.ref g0, .int p0, .int p1, .int p2])).length) Slot.unset).toArray = ls at hl ⊢
  have hl : lv_has ls 6 [(0, .ref g0), (1, .int p0), (2, .int p1), (3, .int p2)] := hl
  refine lv_iload_n hx hb dX5_write_0 rfl (lv_at hl 1 rfl) ?_
  refine vp_callSi (W.runS (As := [.int p0]) (rest := []) ⟨hx, hb, hml, hown, hts⟩ (kX5_isStream l p0) (va_cwS 1 hts gX5_write_X5_isStream rfl rfl rfl (by decide +kernel) ⟨Nat.le_of_ble_eq_true rfl, Nat.le_of_ble_eq_true rfl⟩) ⟨fun a U g mk q => q, fun U hU hW => ⟨rfl, trivial⟩⟩ rfl rfl hl.1 rfl (lv_room (Nat.le_of_ble_eq_true rfl)) dX5_write_1 ⟨Nat.le_of_ble_eq_true rfl, Nat.le_of_ble_eq_true rfl⟩) (fun r_1 hwr_1 => ?_)
  rcases hwr_1 with ⟨rfl, hwr_1⟩ | ⟨rfl, hwr_1⟩
  · refine lv_if_eq (tgt := 14) hx hb dX5_write_4 (by decide) (fun c_2 => False.elim (by revert c_2; decide)) (fun _ => ?_)
    refine lv_iload_n hx hb dX5_write_7 rfl (lv_at hl 2 rfl) ?_
    refine vp_callSi (W.runS (As := [.int p1]) (rest := []) ⟨hx, hb, hml, hown, hts⟩ (kX5_isForm l p1) (va_cwS 1 hts gX5_write_X5_isForm rfl rfl rfl (by decide +kernel) ⟨Nat.le_of_ble_eq_true rfl, Nat.le_of_ble_eq_true rfl⟩) ⟨fun a U g mk q => q, fun U hU hW => ⟨rfl, trivial⟩⟩ rfl rfl hl.1 rfl (lv_room (Nat.le_of_ble_eq_true rfl)) dX5_write_8 ⟨Nat.le_of_ble_eq_true rfl, Nat.le_of_ble_eq_true rfl⟩) (fun r_3 hwr_3 => ?_)
    rcases hwr_3 with ⟨rfl, hwr_3⟩ | ⟨rfl, hwr_3⟩
    · refine lv_if_ne (tgt := 16) hx hb dX5_write_11 (by decide) (fun _ => ?_) (fun c_4 => False.elim (by revert c_4; decide))
      refine lv_aload_n hx hb dX5_write_16 rfl (lv_at hl 0 rfl) ?_
      refine va_get (D := (dC, dI)) (ci := 4) (v := .ref g1) (C := RX5) (T := TX5) (N := 23) hx hb hts (by decide +kernel) hown hK hP 0 rfl rfl 0 (by decide) (hts (.fieldLink RX5 7 "SignFormsModel" "isOpen" "[Z") (by decide +kernel)) (fun _ h9 => h9) rfl dX5_write_17 ?_
      refine lv_iload_n hx hb dX5_write_20 rfl (lv_at hl 1 rfl) ?_
      refine va_zald hx hb hK hP 1 0 rfl rfl (vp_in_iff.mpr (by omega)) dX5_write_21 ?_
      refine W.eq (g2 := F0 m 22 ls [.int 0]) rfl ?_
      refine lv_if_ne (tgt := 28) hx hb dX5_write_22 (by decide) (fun c_5 => False.elim (by revert c_5; decide)) (fun _ => ?_)
      refine lv_bipush (v := (-2)) hx hb dX5_write_25 (by decide) ?_
      exact W.iret (v := (-2)) hx hb hr (fun t ht hW => ⟨(-2), rfl, by unfold an_write; first | rw [if_pos (by omega)] | rw [if_neg (by omega)], ht⟩) (fun q h => by cases h) dX5_write_27
    · refine lv_if_ne (tgt := 16) hx hb dX5_write_11 (by decide) (fun c_6 => False.elim (by revert c_6; decide)) (fun _ => ?_)
      refine lv_iconst (v := (-1)) hx hb dX5_write_14 (by decide) ?_
      exact W.iret (v := (-1)) hx hb hr (fun t ht hW => ⟨(-1), rfl, by unfold an_write; first | rw [if_pos (by omega)] | rw [if_neg (by omega)], ht⟩) (fun q h => by cases h) dX5_write_15
  · refine lv_if_eq (tgt := 14) hx hb dX5_write_4 (by decide) (fun _ => ?_) (fun c_7 => False.elim (by revert c_7; decide))
    refine lv_iconst (v := (-1)) hx hb dX5_write_14 (by decide) ?_
    exact W.iret (v := (-1)) hx hb hr (fun t ht hW => ⟨(-1), rfl, by unfold an_write; first | rw [if_pos (by omega)] | rw [if_neg (by omega)], ht⟩) (fun q h => by cases h) dX5_write_15
set_option maxHeartbeats 4000000 in
set_option maxRecDepth 100000 in
theorem kX5_size (l : Launch) (dC : Nat → ClassId) (dI : Nat → Nat → Nat) (g0 g1 g2 g3 g4 g5 g6 g7 g8 g9 g10 g11 g12 g13 g14 g15 g16 g17 g18 g19 : Nat) (kZ : ClassId) (p0 : Int32) (p1 : Int32) (p2 : Int32) (p3 : Int32) : Met l yX5_size wsX5_size ({ frames := 1, cells := 0, slots := 0, locals := 20 } : Room) (va_Pc [.ref g0, .int p0, .int p1, .int p2, .int p3] (fun U => va_P (dC, dI) vwCl [(g0, .inr (4, [.ref g1, .ref g2, .ref g3, .ref g4, .ref g5, .ref g6, .ref g7, .ref g8, .ref g9, .ref g10, .ref g11, .ref g12, .ref g13, .ref g14, .ref g15, .ref g16, .ref g17, .ref g18, .int 0, .ref g19, .int 0, .int 0, .int 0])), (g1, .inl (kZ, 4, .inl (fun _ => 0)))] U.heap ∧ va_K (dC, dI) vwCl [(kZ, .boolean)] U)) (vp_Si (fun r => r = an_write p0 p1)) 0 0 (fun _ => False) := by
  refine Met.ofW (cc := cX5_size) (maxL := 7) (ret := (some .int)) (by decide) rfl ?_
  intro p e s m args below meth c s₁ B hml hv
  obtain ⟨rfl, hP, hK⟩ := hv
  have hx := B.exec
  have hb := B.bytes
  have hr := B.returns
  have hts := atoms_spec (ws := wsX5_size) B.pre
  have hown : s.vm.findClass RX5 = some m.cls := findClass_of_methodNamed B.named
  have hlocks := B.notSynchronized
  have hl := lv_entry ([.ref g0, .int p0, .int p1, .int p2, .int p3]) (n := 7) (Nat.le_of_ble_eq_true rfl)
  rw [lg_entry_eq]
  generalize (lg_sl ([.ref g0, .int p0, .int p1, .int p2, .int p3]) ++ List.replicate (7 - (lg_sl ([.ref g0, .int p0, .int p1, .int p2, .int p3])).length) Slot.unset).toArray = ls at hl ⊢
  have hl : lv_has ls 7 [(0, .ref g0), (1, .int p0), (2, .int p1), (3, .int p2), (4, .int p3)] := hl
  refine lv_iload_n hx hb dX5_size_0 rfl (lv_at hl 1 rfl) ?_
  refine vp_callSi (W.runS (As := [.int p0]) (rest := []) ⟨hx, hb, hml, hown, hts⟩ (kX5_isStream l p0) (va_cwS 1 hts gX5_size_X5_isStream rfl rfl rfl (by decide +kernel) ⟨Nat.le_of_ble_eq_true rfl, Nat.le_of_ble_eq_true rfl⟩) ⟨fun a U g mk q => q, fun U hU hW => ⟨rfl, trivial⟩⟩ rfl rfl hl.1 rfl (lv_room (Nat.le_of_ble_eq_true rfl)) dX5_size_1 ⟨Nat.le_of_ble_eq_true rfl, Nat.le_of_ble_eq_true rfl⟩) (fun r_1 hwr_1 => ?_)
  rcases hwr_1 with ⟨rfl, hwr_1⟩ | ⟨rfl, hwr_1⟩
  · refine lv_if_eq (tgt := 14) hx hb dX5_size_4 (by decide) (fun c_2 => False.elim (by revert c_2; decide)) (fun _ => ?_)
    refine lv_iload_n hx hb dX5_size_7 rfl (lv_at hl 2 rfl) ?_
    refine vp_callSi (W.runS (As := [.int p1]) (rest := []) ⟨hx, hb, hml, hown, hts⟩ (kX5_isForm l p1) (va_cwS 1 hts gX5_size_X5_isForm rfl rfl rfl (by decide +kernel) ⟨Nat.le_of_ble_eq_true rfl, Nat.le_of_ble_eq_true rfl⟩) ⟨fun a U g mk q => q, fun U hU hW => ⟨rfl, trivial⟩⟩ rfl rfl hl.1 rfl (lv_room (Nat.le_of_ble_eq_true rfl)) dX5_size_8 ⟨Nat.le_of_ble_eq_true rfl, Nat.le_of_ble_eq_true rfl⟩) (fun r_3 hwr_3 => ?_)
    rcases hwr_3 with ⟨rfl, hwr_3⟩ | ⟨rfl, hwr_3⟩
    · refine lv_if_ne (tgt := 16) hx hb dX5_size_11 (by decide) (fun _ => ?_) (fun c_4 => False.elim (by revert c_4; decide))
      refine lv_aload_n hx hb dX5_size_16 rfl (lv_at hl 0 rfl) ?_
      refine va_get (D := (dC, dI)) (ci := 4) (v := .ref g1) (C := RX5) (T := TX5) (N := 23) hx hb hts (by decide +kernel) hown hK hP 0 rfl rfl 0 (by decide) (hts (.fieldLink RX5 7 "SignFormsModel" "isOpen" "[Z") (by decide +kernel)) (fun _ h9 => h9) rfl dX5_size_17 ?_
      refine lv_iload_n hx hb dX5_size_20 rfl (lv_at hl 1 rfl) ?_
      refine va_zald hx hb hK hP 1 0 rfl rfl (vp_in_iff.mpr (by omega)) dX5_size_21 ?_
      refine W.eq (g2 := F0 m 22 ls [.int 0]) rfl ?_
      refine lv_if_ne (tgt := 28) hx hb dX5_size_22 (by decide) (fun c_5 => False.elim (by revert c_5; decide)) (fun _ => ?_)
      refine lv_bipush (v := (-2)) hx hb dX5_size_25 (by decide) ?_
      exact W.iret (v := (-2)) hx hb hr (fun t ht hW => ⟨(-2), rfl, by unfold an_write; first | rw [if_pos (by omega)] | rw [if_neg (by omega)], ht⟩) (fun q h => by cases h) dX5_size_27
    · refine lv_if_ne (tgt := 16) hx hb dX5_size_11 (by decide) (fun c_6 => False.elim (by revert c_6; decide)) (fun _ => ?_)
      refine lv_iconst (v := (-1)) hx hb dX5_size_14 (by decide) ?_
      exact W.iret (v := (-1)) hx hb hr (fun t ht hW => ⟨(-1), rfl, by unfold an_write; first | rw [if_pos (by omega)] | rw [if_neg (by omega)], ht⟩) (fun q h => by cases h) dX5_size_15
  · refine lv_if_eq (tgt := 14) hx hb dX5_size_4 (by decide) (fun _ => ?_) (fun c_7 => False.elim (by revert c_7; decide))
    refine lv_iconst (v := (-1)) hx hb dX5_size_14 (by decide) ?_
    exact W.iret (v := (-1)) hx hb hr (fun t ht hW => ⟨(-1), rfl, by unfold an_write; first | rw [if_pos (by omega)] | rw [if_neg (by omega)], ht⟩) (fun q h => by cases h) dX5_size_15
set_option maxHeartbeats 4000000 in
set_option maxRecDepth 100000 in
theorem kX5_out (l : Launch) (dC : Nat → ClassId) (dI : Nat → Nat → Nat) (g0 g1 g2 g3 g4 g5 g6 g7 g8 g9 g10 g11 g12 g13 g14 g15 g16 g17 g18 g19 : Nat) (p0 : Int32) : Met l yX5_out wsX5_out ({ frames := 0, cells := 0, slots := 0, locals := 0 } : Room) (va_Pc [.ref g0, .int p0] (fun U => va_P (dC, dI) vwCl [(g0, .inr (4, [.ref g1, .ref g2, .ref g3, .ref g4, .ref g5, .ref g6, .ref g7, .ref g8, .ref g9, .ref g10, .ref g11, .ref g12, .ref g13, .ref g14, .ref g15, .ref g16, .ref g17, .ref g18, .int 0, .ref g19, .int 0, .int 0, .int 0]))] U.heap ∧ va_K (dC, dI) vwCl [] U)) (vp_Si (fun r => r = -1)) 0 0 (fun _ => False) := by
  refine Met.ofW (cc := cX5_out) (maxL := 2) (ret := (some .int)) (by decide) rfl ?_
  intro p e s m args below meth c s₁ B hml hv
  obtain ⟨rfl, hP, hK⟩ := hv
  have hx := B.exec
  have hb := B.bytes
  have hr := B.returns
  have hts := atoms_spec (ws := wsX5_out) B.pre
  have hown : s.vm.findClass RX5 = some m.cls := findClass_of_methodNamed B.named
  have hlocks := B.notSynchronized
  have hl := lv_entry ([.ref g0, .int p0]) (n := 2) (Nat.le_of_ble_eq_true rfl)
  rw [lg_entry_eq]
  generalize (lg_sl ([.ref g0, .int p0]) ++ List.replicate (2 - (lg_sl ([.ref g0, .int p0])).length) Slot.unset).toArray = ls at hl ⊢
  have hl : lv_has ls 2 [(0, .ref g0), (1, .int p0)] := hl
  refine lv_iload_n hx hb dX5_out_0 rfl (lv_at hl 1 rfl) ?_
  refine lv_if_lt (tgt := 12) hx hb dX5_out_1 (by decide) (fun c_1 => ?_) (fun c_1 => ?_)
  · have zc_1 : p0.toInt < (0 : Int) := zz_lt rfl (by decide) c_1
    refine lv_iconst (v := (-1)) hx hb dX5_out_12 (by decide) ?_
    refine lv_goto (tgt := 22) hx hb dX5_out_13 (by decide) ?_
    exact W.iret (v := (-1)) hx hb hr (fun t ht hW => ⟨(-1), rfl, rfl, ht⟩) (fun q h => by cases h) dX5_out_22
  · have zc_1 : p0.toInt ≥ (0 : Int) := zz_nlt rfl (by decide) c_1
    refine lv_iload_n hx hb dX5_out_4 rfl (lv_at hl 1 rfl) ?_
    refine lv_aload_n hx hb dX5_out_5 rfl (lv_at hl 0 rfl) ?_
    refine va_get (D := (dC, dI)) (ci := 4) (v := .int 0) (C := RX5) (T := TX5) (N := 23) hx hb hts (by decide +kernel) hown hK hP 0 rfl rfl 18 (by decide) (hts (.fieldLink RX5 68 "SignFormsModel" "outSize" "I") (by decide +kernel)) (fun _ h9 => h9) rfl dX5_out_6 ?_
    refine lv_icmp_lt (tgt := 16) hx hb dX5_out_9 (by decide) (fun c_2 => ?_) (fun c_2 => ?_)
    · have zc_2 : p0.toInt < (0 : Int) := zz_lt rfl (by decide) c_2
      exfalso
      omega
    · have zc_2 : p0.toInt ≥ (0 : Int) := zz_nlt rfl (by decide) c_2
      refine lv_iconst (v := (-1)) hx hb dX5_out_12 (by decide) ?_
      refine lv_goto (tgt := 22) hx hb dX5_out_13 (by decide) ?_
      exact W.iret (v := (-1)) hx hb hr (fun t ht hW => ⟨(-1), rfl, rfl, ht⟩) (fun q h => by cases h) dX5_out_22
set_option maxHeartbeats 4000000 in
set_option maxRecDepth 100000 in
theorem kX5_check (l : Launch) (dC : Nat → ClassId) (dI : Nat → Nat → Nat) (g0 g1 g2 g3 g4 g5 g6 g7 g8 g9 g10 g11 g12 g13 g14 g15 g16 g17 g18 g19 : Nat) (p0 : Int32) : Met l yX5_check wsX5_check ({ frames := 1, cells := 0, slots := 0, locals := 20 } : Room) (va_Pc [.ref g0, .int p0] (fun U => va_P (dC, dI) vwCl [(g0, .inr (4, [.ref g1, .ref g2, .ref g3, .ref g4, .ref g5, .ref g6, .ref g7, .ref g8, .ref g9, .ref g10, .ref g11, .ref g12, .ref g13, .ref g14, .ref g15, .ref g16, .ref g17, .ref g18, .int 0, .ref g19, .int 0, .int 0, .int 0]))] U.heap ∧ va_K (dC, dI) vwCl [] U)) (vp_Si (fun r => r = an_check p0)) 0 0 (fun _ => False) := by
  refine Met.ofW (cc := cX5_check) (maxL := 3) (ret := (some .int)) (by decide) rfl ?_
  intro p e s m args below meth c s₁ B hml hv
  obtain ⟨rfl, hP, hK⟩ := hv
  have hx := B.exec
  have hb := B.bytes
  have hr := B.returns
  have hts := atoms_spec (ws := wsX5_check) B.pre
  have hown : s.vm.findClass RX5 = some m.cls := findClass_of_methodNamed B.named
  have hlocks := B.notSynchronized
  have hl := lv_entry ([.ref g0, .int p0]) (n := 3) (Nat.le_of_ble_eq_true rfl)
  rw [lg_entry_eq]
  generalize (lg_sl ([.ref g0, .int p0]) ++ List.replicate (3 - (lg_sl ([.ref g0, .int p0])).length) Slot.unset).toArray = ls at hl ⊢
  have hl : lv_has ls 3 [(0, .ref g0), (1, .int p0)] := hl
  refine lv_iload_n hx hb dX5_check_0 rfl (lv_at hl 1 rfl) ?_
  refine vp_callSi (W.runS (As := [.int p0]) (rest := []) ⟨hx, hb, hml, hown, hts⟩ (kX5_isForm l p0) (va_cwS 1 hts gX5_check_X5_isForm rfl rfl rfl (by decide +kernel) ⟨Nat.le_of_ble_eq_true rfl, Nat.le_of_ble_eq_true rfl⟩) ⟨fun a U g mk q => q, fun U hU hW => ⟨rfl, trivial⟩⟩ rfl rfl hl.1 rfl (lv_room (Nat.le_of_ble_eq_true rfl)) dX5_check_1 ⟨Nat.le_of_ble_eq_true rfl, Nat.le_of_ble_eq_true rfl⟩) (fun r_1 hwr_1 => ?_)
  rcases hwr_1 with ⟨rfl, hwr_1⟩ | ⟨rfl, hwr_1⟩
  · refine lv_if_ne (tgt := 9) hx hb dX5_check_4 (by decide) (fun _ => ?_) (fun c_2 => False.elim (by revert c_2; decide))
    refine lv_iconst (v := 0) hx hb dX5_check_9 (by decide) ?_
    refine lv_istore_n (lv' := [(2, .int 0), (0, .ref g0), (1, .int p0)]) hx hb dX5_check_10 rfl hl (by decide) rfl (fun ls hl => ?_)
    refine lv_iload_n hx hb dX5_check_11 rfl (lv_at hl 0 rfl) ?_
    refine lv_aload_n hx hb dX5_check_12 rfl (lv_at hl 1 rfl) ?_
    refine va_get (D := (dC, dI)) (ci := 4) (v := .int 0) (C := RX5) (T := TX5) (N := 23) hx hb hts (by decide +kernel) hown hK hP 0 rfl rfl 18 (by decide) (hts (.fieldLink RX5 68 "SignFormsModel" "outSize" "I") (by decide +kernel)) (fun _ h9 => h9) rfl dX5_check_13 ?_
    refine lv_icmp_ge (tgt := 37) hx hb dX5_check_16 (by decide) (fun _ => ?_) (fun c_3 => False.elim (by revert c_3; decide))
    refine lv_iconst (v := 0) hx hb dX5_check_37 (by decide) ?_
    refine lv_istore_n (lv' := [(2, .int 0), (0, .ref g0), (1, .int p0)]) hx hb dX5_check_38 rfl hl (by decide) rfl (fun ls hl => ?_)
    refine lv_iload_n hx hb dX5_check_39 rfl (lv_at hl 0 rfl) ?_
    refine lv_aload_n hx hb dX5_check_40 rfl (lv_at hl 1 rfl) ?_
    refine va_get (D := (dC, dI)) (ci := 4) (v := .int 0) (C := RX5) (T := TX5) (N := 23) hx hb hts (by decide +kernel) hown hK hP 0 rfl rfl 18 (by decide) (hts (.fieldLink RX5 68 "SignFormsModel" "outSize" "I") (by decide +kernel)) (fun _ h9 => h9) rfl dX5_check_41 ?_
    refine lv_icmp_ge (tgt := 74) hx hb dX5_check_44 (by decide) (fun _ => ?_) (fun c_4 => False.elim (by revert c_4; decide))
    refine lv_bipush (v := (-2)) hx hb dX5_check_74 (by decide) ?_
    exact W.iret (v := (-2)) hx hb hr (fun t ht hW => ⟨(-2), rfl, by unfold an_check; first | rw [if_pos (by omega)] | rw [if_neg (by omega)], ht⟩) (fun q h => by cases h) dX5_check_76
  · refine lv_if_ne (tgt := 9) hx hb dX5_check_4 (by decide) (fun c_5 => False.elim (by revert c_5; decide)) (fun _ => ?_)
    refine lv_iconst (v := (-1)) hx hb dX5_check_7 (by decide) ?_
    exact W.iret (v := (-1)) hx hb hr (fun t ht hW => ⟨(-1), rfl, by unfold an_check; first | rw [if_pos (by omega)] | rw [if_neg (by omega)], ht⟩) (fun q h => by cases h) dX5_check_8
set_option maxHeartbeats 4000000 in
set_option maxRecDepth 100000 in
theorem kX5_order (l : Launch) (dC : Nat → ClassId) (dI : Nat → Nat → Nat) (g0 g1 g2 g3 g4 g5 g6 g7 g8 g9 g10 g11 g12 g13 g14 g15 g16 g17 g18 g19 : Nat) (kZ : ClassId) (p0 : Int32) (p1 : Int32) (p2 : Int32) : Met l yX5_order wsX5_order ({ frames := 1, cells := 0, slots := 0, locals := 20 } : Room) (va_Pc [.ref g0, .int p0, .int p1, .int p2] (fun U => va_P (dC, dI) vwCl [(g0, .inr (4, [.ref g1, .ref g2, .ref g3, .ref g4, .ref g5, .ref g6, .ref g7, .ref g8, .ref g9, .ref g10, .ref g11, .ref g12, .ref g13, .ref g14, .ref g15, .ref g16, .ref g17, .ref g18, .int 0, .ref g19, .int 0, .int 0, .int 0])), (g1, .inl (kZ, 4, .inl (fun _ => 0)))] U.heap ∧ va_K (dC, dI) vwCl [(kZ, .boolean)] U)) (vp_Si (fun r => r = an_order p0 p1 p2)) 0 0 (fun _ => False) := by
  refine Met.ofW (cc := cX5_order) (maxL := 9) (ret := (some .int)) (by decide) rfl ?_
  intro p e s m args below meth c s₁ B hml hv
  obtain ⟨rfl, hP, hK⟩ := hv
  have hx := B.exec
  have hb := B.bytes
  have hr := B.returns
  have hts := atoms_spec (ws := wsX5_order) B.pre
  have hown : s.vm.findClass RX5 = some m.cls := findClass_of_methodNamed B.named
  have hlocks := B.notSynchronized
  have hl := lv_entry ([.ref g0, .int p0, .int p1, .int p2]) (n := 9) (Nat.le_of_ble_eq_true rfl)
  rw [lg_entry_eq]
  generalize (lg_sl ([.ref g0, .int p0, .int p1, .int p2]) ++ List.replicate (9 - (lg_sl ([.ref g0, .int p0, .int p1, .int p2])).length) Slot.unset).toArray = ls at hl ⊢
  have hl : lv_has ls 9 [(0, .ref g0), (1, .int p0), (2, .int p1), (3, .int p2)] := hl
  refine lv_iload_n hx hb dX5_order_0 rfl (lv_at hl 1 rfl) ?_
  refine vp_callSi (W.runS (As := [.int p0]) (rest := []) ⟨hx, hb, hml, hown, hts⟩ (kX5_isStream l p0) (va_cwS 1 hts gX5_order_X5_isStream rfl rfl rfl (by decide +kernel) ⟨Nat.le_of_ble_eq_true rfl, Nat.le_of_ble_eq_true rfl⟩) ⟨fun a U g mk q => q, fun U hU hW => ⟨rfl, trivial⟩⟩ rfl rfl hl.1 rfl (lv_room (Nat.le_of_ble_eq_true rfl)) dX5_order_1 ⟨Nat.le_of_ble_eq_true rfl, Nat.le_of_ble_eq_true rfl⟩) (fun r_1 hwr_1 => ?_)
  rcases hwr_1 with ⟨rfl, hwr_1⟩ | ⟨rfl, hwr_1⟩
  · refine lv_if_eq (tgt := 23) hx hb dX5_order_4 (by decide) (fun c_2 => False.elim (by revert c_2; decide)) (fun _ => ?_)
    refine lv_iload_n hx hb dX5_order_7 rfl (lv_at hl 2 rfl) ?_
    refine vp_callSi (W.runS (As := [.int p1]) (rest := []) ⟨hx, hb, hml, hown, hts⟩ (kX5_isStream l p1) (va_cwS 1 hts gX5_order_X5_isStream rfl rfl rfl (by decide +kernel) ⟨Nat.le_of_ble_eq_true rfl, Nat.le_of_ble_eq_true rfl⟩) ⟨fun a U g mk q => q, fun U hU hW => ⟨rfl, trivial⟩⟩ rfl rfl hl.1 rfl (lv_room (Nat.le_of_ble_eq_true rfl)) dX5_order_8 ⟨Nat.le_of_ble_eq_true rfl, Nat.le_of_ble_eq_true rfl⟩) (fun r_3 hwr_3 => ?_)
    rcases hwr_3 with ⟨rfl, hwr_3⟩ | ⟨rfl, hwr_3⟩
    · refine lv_if_eq (tgt := 23) hx hb dX5_order_11 (by decide) (fun c_4 => False.elim (by revert c_4; decide)) (fun _ => ?_)
      refine lv_iload_n hx hb dX5_order_14 rfl (lv_at hl 3 rfl) ?_
      refine lv_if_lt (tgt := 23) hx hb dX5_order_15 (by decide) (fun c_5 => ?_) (fun c_5 => ?_)
      · have zc_5 : p2.toInt < (0 : Int) := zz_lt rfl (by decide) c_5
        refine lv_iconst (v := (-1)) hx hb dX5_order_23 (by decide) ?_
        exact W.iret (v := (-1)) hx hb hr (fun t ht hW => ⟨(-1), rfl, by unfold an_order; first | rw [if_pos (by omega)] | rw [if_neg (by omega)], ht⟩) (fun q h => by cases h) dX5_order_24
      · have zc_5 : p2.toInt ≥ (0 : Int) := zz_nlt rfl (by decide) c_5
        refine lv_iload_n hx hb dX5_order_18 rfl (lv_at hl 3 rfl) ?_
        refine lv_iconst (v := 2) hx hb dX5_order_19 (by decide) ?_
        refine lv_icmp_le (tgt := 25) hx hb dX5_order_20 (by decide) (fun c_6 => ?_) (fun c_6 => ?_)
        · have zc_6 : p2.toInt ≤ (2 : Int) := zz_le rfl (by decide) c_6
          refine lv_aload_n hx hb dX5_order_25 rfl (lv_at hl 0 rfl) ?_
          refine va_get (D := (dC, dI)) (ci := 4) (v := .ref g1) (C := RX5) (T := TX5) (N := 23) hx hb hts (by decide +kernel) hown hK hP 0 rfl rfl 0 (by decide) (hts (.fieldLink RX5 7 "SignFormsModel" "isOpen" "[Z") (by decide +kernel)) (fun _ h9 => h9) rfl dX5_order_26 ?_
          refine lv_iload_n hx hb dX5_order_29 rfl (lv_at hl 1 rfl) ?_
          refine va_zald hx hb hK hP 1 0 rfl rfl (vp_in_iff.mpr (by omega)) dX5_order_30 ?_
          refine W.eq (g2 := F0 m 31 ls [.int 0]) rfl ?_
          refine lv_if_eq (tgt := 43) hx hb dX5_order_31 (by decide) (fun _ => ?_) (fun c_7 => False.elim (by revert c_7; decide))
          refine lv_bipush (v := (-2)) hx hb dX5_order_43 (by decide) ?_
          exact W.iret (v := (-2)) hx hb hr (fun t ht hW => ⟨(-2), rfl, by unfold an_order; first | rw [if_pos (by omega)] | rw [if_neg (by omega)], ht⟩) (fun q h => by cases h) dX5_order_45
        · have zc_6 : p2.toInt > (2 : Int) := zz_nle rfl (by decide) c_6
          refine lv_iconst (v := (-1)) hx hb dX5_order_23 (by decide) ?_
          exact W.iret (v := (-1)) hx hb hr (fun t ht hW => ⟨(-1), rfl, by unfold an_order; first | rw [if_pos (by omega)] | rw [if_neg (by omega)], ht⟩) (fun q h => by cases h) dX5_order_24
    · refine lv_if_eq (tgt := 23) hx hb dX5_order_11 (by decide) (fun _ => ?_) (fun c_8 => False.elim (by revert c_8; decide))
      refine lv_iconst (v := (-1)) hx hb dX5_order_23 (by decide) ?_
      exact W.iret (v := (-1)) hx hb hr (fun t ht hW => ⟨(-1), rfl, by unfold an_order; first | rw [if_pos (by omega)] | rw [if_neg (by omega)], ht⟩) (fun q h => by cases h) dX5_order_24
  · refine lv_if_eq (tgt := 23) hx hb dX5_order_4 (by decide) (fun _ => ?_) (fun c_9 => False.elim (by revert c_9; decide))
    refine lv_iconst (v := (-1)) hx hb dX5_order_23 (by decide) ?_
    exact W.iret (v := (-1)) hx hb hr (fun t ht hW => ⟨(-1), rfl, by unfold an_order; first | rw [if_pos (by omega)] | rw [if_neg (by omega)], ht⟩) (fun q h => by cases h) dX5_order_24
set_option maxHeartbeats 4000000 in
set_option maxRecDepth 100000 in
theorem kX5_among (l : Launch) (dC : Nat → ClassId) (dI : Nat → Nat → Nat) (g0 g1 g2 g3 g4 g5 g6 g7 g8 g9 g10 g11 g12 g13 g14 g15 g16 g17 g18 g19 : Nat) (kZ : ClassId) (p0 : Int32) (p1 : Int32) (p2 : Int32) : Met l yX5_among wsX5_among ({ frames := 1, cells := 0, slots := 0, locals := 20 } : Room) (va_Pc [.ref g0, .int p0, .int p1, .int p2] (fun U => va_P (dC, dI) vwCl [(g0, .inr (4, [.ref g1, .ref g2, .ref g3, .ref g4, .ref g5, .ref g6, .ref g7, .ref g8, .ref g9, .ref g10, .ref g11, .ref g12, .ref g13, .ref g14, .ref g15, .ref g16, .ref g17, .ref g18, .int 0, .ref g19, .int 0, .int 0, .int 0])), (g1, .inl (kZ, 4, .inl (fun _ => 0)))] U.heap ∧ va_K (dC, dI) vwCl [(kZ, .boolean)] U)) (vp_Si (fun r => r = an_end p0)) 0 0 (fun _ => False) := by
  refine Met.ofW (cc := cX5_among) (maxL := 7) (ret := (some .int)) (by decide) rfl ?_
  intro p e s m args below meth c s₁ B hml hv
  obtain ⟨rfl, hP, hK⟩ := hv
  have hx := B.exec
  have hb := B.bytes
  have hr := B.returns
  have hts := atoms_spec (ws := wsX5_among) B.pre
  have hown : s.vm.findClass RX5 = some m.cls := findClass_of_methodNamed B.named
  have hlocks := B.notSynchronized
  have hl := lv_entry ([.ref g0, .int p0, .int p1, .int p2]) (n := 7) (Nat.le_of_ble_eq_true rfl)
  rw [lg_entry_eq]
  generalize (lg_sl ([.ref g0, .int p0, .int p1, .int p2]) ++ List.replicate (7 - (lg_sl ([.ref g0, .int p0, .int p1, .int p2])).length) Slot.unset).toArray = ls at hl ⊢
  have hl : lv_has ls 7 [(0, .ref g0), (1, .int p0), (2, .int p1), (3, .int p2)] := hl
  refine lv_iload_n hx hb dX5_among_0 rfl (lv_at hl 1 rfl) ?_
  refine vp_callSi (W.runS (As := [.int p0]) (rest := []) ⟨hx, hb, hml, hown, hts⟩ (kX5_isStream l p0) (va_cwS 1 hts gX5_among_X5_isStream rfl rfl rfl (by decide +kernel) ⟨Nat.le_of_ble_eq_true rfl, Nat.le_of_ble_eq_true rfl⟩) ⟨fun a U g mk q => q, fun U hU hW => ⟨rfl, trivial⟩⟩ rfl rfl hl.1 rfl (lv_room (Nat.le_of_ble_eq_true rfl)) dX5_among_1 ⟨Nat.le_of_ble_eq_true rfl, Nat.le_of_ble_eq_true rfl⟩) (fun r_1 hwr_1 => ?_)
  rcases hwr_1 with ⟨rfl, hwr_1⟩ | ⟨rfl, hwr_1⟩
  · refine lv_if_ne (tgt := 9) hx hb dX5_among_4 (by decide) (fun _ => ?_) (fun c_2 => False.elim (by revert c_2; decide))
    refine lv_aload_n hx hb dX5_among_9 rfl (lv_at hl 0 rfl) ?_
    refine va_get (D := (dC, dI)) (ci := 4) (v := .ref g1) (C := RX5) (T := TX5) (N := 23) hx hb hts (by decide +kernel) hown hK hP 0 rfl rfl 0 (by decide) (hts (.fieldLink RX5 7 "SignFormsModel" "isOpen" "[Z") (by decide +kernel)) (fun _ h9 => h9) rfl dX5_among_10 ?_
    refine lv_iload_n hx hb dX5_among_13 rfl (lv_at hl 1 rfl) ?_
    refine va_zald hx hb hK hP 1 0 rfl rfl (vp_in_iff.mpr (by omega)) dX5_among_14 ?_
    refine W.eq (g2 := F0 m 15 ls [.int 0]) rfl ?_
    refine lv_if_ne (tgt := 21) hx hb dX5_among_15 (by decide) (fun c_3 => False.elim (by revert c_3; decide)) (fun _ => ?_)
    refine lv_bipush (v := (-2)) hx hb dX5_among_18 (by decide) ?_
    exact W.iret (v := (-2)) hx hb hr (fun t ht hW => ⟨(-2), rfl, by unfold an_end; first | rw [if_pos (by omega)] | rw [if_neg (by omega)], ht⟩) (fun q h => by cases h) dX5_among_20
  · refine lv_if_ne (tgt := 9) hx hb dX5_among_4 (by decide) (fun c_4 => False.elim (by revert c_4; decide)) (fun _ => ?_)
    refine lv_iconst (v := (-1)) hx hb dX5_among_7 (by decide) ?_
    exact W.iret (v := (-1)) hx hb hr (fun t ht hW => ⟨(-1), rfl, by unfold an_end; first | rw [if_pos (by omega)] | rw [if_neg (by omega)], ht⟩) (fun q h => by cases h) dX5_among_8
end
section
theorem dX1_init_0 : decode cX1_init 0 = .ok (.aload_n 0, 1) := by decide +kernel
theorem dX1_init_1 : decode cX1_init 1 = .ok (.invokespecial 3, 3) := by decide +kernel
theorem dX1_init_4 : decode cX1_init 4 = .ok (.aload_n 0, 1) := by decide +kernel
theorem dX1_init_5 : decode cX1_init 5 = .ok (.sipush 6000, 3) := by decide +kernel
theorem dX1_init_8 : decode cX1_init 8 = .ok (.newarray .int, 2) := by decide +kernel
theorem dX1_init_10 : decode cX1_init 10 = .ok (.putfield 9, 3) := by decide +kernel
theorem dX1_init_13 : decode cX1_init 13 = .ok (.aload_n 0, 1) := by decide +kernel
theorem dX1_init_14 : decode cX1_init 14 = .ok (.iconst 0, 1) := by decide +kernel
theorem dX1_init_15 : decode cX1_init 15 = .ok (.putfield 15, 3) := by decide +kernel
theorem dX1_init_18 : decode cX1_init 18 = .ok (.return_, 1) := by decide +kernel
theorem dX2_init_0 : decode cX2_init 0 = .ok (.aload_n 0, 1) := by decide +kernel
theorem dX2_init_1 : decode cX2_init 1 = .ok (.invokespecial 3, 3) := by decide +kernel
theorem dX2_init_4 : decode cX2_init 4 = .ok (.return_, 1) := by decide +kernel
set_option maxRecDepth 20000 in
theorem ggX3_init_X2_init : GoodIn wsX3_init wsX2_init := goodIn_r _ [15, 16, 2, 3] (by decide +kernel) (by decide +kernel)
set_option maxRecDepth 20000 in
theorem gX3_init_X2_init_n29 : GoodIn wsX3_init (wsX2_init) := ggX3_init_X2_init
theorem dX3_init_0 : decode cX3_init 0 = .ok (.aload_n 0, 1) := by decide +kernel
theorem dX3_init_1 : decode cX3_init 1 = .ok (.invokespecial 3, 3) := by decide +kernel
theorem dX3_init_4 : decode cX3_init 4 = .ok (.aload_n 0, 1) := by decide +kernel
theorem dX3_init_5 : decode cX3_init 5 = .ok (.sipush 2000, 3) := by decide +kernel
theorem dX3_init_8 : decode cX3_init 8 = .ok (.newarray .int, 2) := by decide +kernel
theorem dX3_init_10 : decode cX3_init 10 = .ok (.putfield 9, 3) := by decide +kernel
theorem dX3_init_13 : decode cX3_init 13 = .ok (.aload_n 0, 1) := by decide +kernel
theorem dX3_init_14 : decode cX3_init 14 = .ok (.sipush 2000, 3) := by decide +kernel
theorem dX3_init_17 : decode cX3_init 17 = .ok (.newarray .int, 2) := by decide +kernel
theorem dX3_init_19 : decode cX3_init 19 = .ok (.putfield 15, 3) := by decide +kernel
theorem dX3_init_22 : decode cX3_init 22 = .ok (.aload_n 0, 1) := by decide +kernel
theorem dX3_init_23 : decode cX3_init 23 = .ok (.sipush 2000, 3) := by decide +kernel
theorem dX3_init_26 : decode cX3_init 26 = .ok (.newarray .int, 2) := by decide +kernel
theorem dX3_init_28 : decode cX3_init 28 = .ok (.putfield 18, 3) := by decide +kernel
theorem dX3_init_31 : decode cX3_init 31 = .ok (.aload_n 0, 1) := by decide +kernel
theorem dX3_init_32 : decode cX3_init 32 = .ok (.sipush 2000, 3) := by decide +kernel
theorem dX3_init_35 : decode cX3_init 35 = .ok (.newarray .int, 2) := by decide +kernel
theorem dX3_init_37 : decode cX3_init 37 = .ok (.putfield 21, 3) := by decide +kernel
theorem dX3_init_40 : decode cX3_init 40 = .ok (.aload_n 0, 1) := by decide +kernel
theorem dX3_init_41 : decode cX3_init 41 = .ok (.sipush 2000, 3) := by decide +kernel
theorem dX3_init_44 : decode cX3_init 44 = .ok (.newarray .int, 2) := by decide +kernel
theorem dX3_init_46 : decode cX3_init 46 = .ok (.putfield 24, 3) := by decide +kernel
theorem dX3_init_49 : decode cX3_init 49 = .ok (.aload_n 0, 1) := by decide +kernel
theorem dX3_init_50 : decode cX3_init 50 = .ok (.new 27, 3) := by decide +kernel
theorem dX3_init_53 : decode cX3_init 53 = .ok (.dup, 1) := by decide +kernel
theorem dX3_init_54 : decode cX3_init 54 = .ok (.invokespecial 29, 3) := by decide +kernel
theorem dX3_init_57 : decode cX3_init 57 = .ok (.putfield 30, 3) := by decide +kernel
theorem dX3_init_60 : decode cX3_init 60 = .ok (.return_, 1) := by decide +kernel
theorem dX3_begin_0 : decode cX3_begin 0 = .ok (.aload_n 0, 1) := by decide +kernel
theorem dX3_begin_1 : decode cX3_begin 1 = .ok (.iload_n 1, 1) := by decide +kernel
theorem dX3_begin_2 : decode cX3_begin 2 = .ok (.putfield 34, 3) := by decide +kernel
theorem dX3_begin_5 : decode cX3_begin 5 = .ok (.aload_n 0, 1) := by decide +kernel
theorem dX3_begin_6 : decode cX3_begin 6 = .ok (.iload_n 2, 1) := by decide +kernel
theorem dX3_begin_7 : decode cX3_begin 7 = .ok (.putfield 38, 3) := by decide +kernel
theorem dX3_begin_10 : decode cX3_begin 10 = .ok (.aload_n 0, 1) := by decide +kernel
theorem dX3_begin_11 : decode cX3_begin 11 = .ok (.iconst 0, 1) := by decide +kernel
theorem dX3_begin_12 : decode cX3_begin 12 = .ok (.putfield 41, 3) := by decide +kernel
theorem dX3_begin_15 : decode cX3_begin 15 = .ok (.aload_n 0, 1) := by decide +kernel
theorem dX3_begin_16 : decode cX3_begin 16 = .ok (.iconst 0, 1) := by decide +kernel
theorem dX3_begin_17 : decode cX3_begin 17 = .ok (.putfield 44, 3) := by decide +kernel
theorem dX3_begin_20 : decode cX3_begin 20 = .ok (.aload_n 0, 1) := by decide +kernel
theorem dX3_begin_21 : decode cX3_begin 21 = .ok (.iconst 0, 1) := by decide +kernel
theorem dX3_begin_22 : decode cX3_begin 22 = .ok (.putfield 47, 3) := by decide +kernel
theorem dX3_begin_25 : decode cX3_begin 25 = .ok (.aload_n 0, 1) := by decide +kernel
theorem dX3_begin_26 : decode cX3_begin 26 = .ok (.iconst 0, 1) := by decide +kernel
theorem dX3_begin_27 : decode cX3_begin 27 = .ok (.putfield 50, 3) := by decide +kernel
theorem dX3_begin_30 : decode cX3_begin 30 = .ok (.aload_n 0, 1) := by decide +kernel
theorem dX3_begin_31 : decode cX3_begin 31 = .ok (.iconst (-1), 1) := by decide +kernel
theorem dX3_begin_32 : decode cX3_begin 32 = .ok (.putfield 53, 3) := by decide +kernel
theorem dX3_begin_35 : decode cX3_begin 35 = .ok (.aload_n 0, 1) := by decide +kernel
theorem dX3_begin_36 : decode cX3_begin 36 = .ok (.iconst (-1), 1) := by decide +kernel
theorem dX3_begin_37 : decode cX3_begin 37 = .ok (.putfield 56, 3) := by decide +kernel
theorem dX3_begin_40 : decode cX3_begin 40 = .ok (.aload_n 0, 1) := by decide +kernel
theorem dX3_begin_41 : decode cX3_begin 41 = .ok (.iconst 0, 1) := by decide +kernel
theorem dX3_begin_42 : decode cX3_begin 42 = .ok (.putfield 59, 3) := by decide +kernel
theorem dX3_begin_45 : decode cX3_begin 45 = .ok (.aload_n 0, 1) := by decide +kernel
theorem dX3_begin_46 : decode cX3_begin 46 = .ok (.iconst 0, 1) := by decide +kernel
theorem dX3_begin_47 : decode cX3_begin 47 = .ok (.putfield 63, 3) := by decide +kernel
theorem dX3_begin_50 : decode cX3_begin 50 = .ok (.return_, 1) := by decide +kernel
set_option maxRecDepth 20000 in
theorem ggX4_init_X1_init : GoodIn wsX4_init wsX1_init := goodIn_r _ [16, 17, 2, 3, 18, 19, 20, 27, 28] (by decide +kernel) (by decide +kernel)
set_option maxRecDepth 20000 in
theorem gX4_init_X1_init : GoodIn wsX4_init (wsX1_init) := ggX4_init_X1_init
set_option maxRecDepth 20000 in
theorem ggX4_init_X2_init : GoodIn wsX4_init wsX2_init := goodIn_r _ [22, 23, 2, 3] (by decide +kernel) (by decide +kernel)
set_option maxRecDepth 20000 in
theorem gX4_init_X2_init_n24 : GoodIn wsX4_init (wsX2_init) := ggX4_init_X2_init
theorem dX4_init_0 : decode cX4_init 0 = .ok (.aload_n 0, 1) := by decide +kernel
theorem dX4_init_1 : decode cX4_init 1 = .ok (.invokespecial 3, 3) := by decide +kernel
theorem dX4_init_4 : decode cX4_init 4 = .ok (.aload_n 0, 1) := by decide +kernel
theorem dX4_init_5 : decode cX4_init 5 = .ok (.iconst 4, 1) := by decide +kernel
theorem dX4_init_6 : decode cX4_init 6 = .ok (.anewarray 9, 3) := by decide +kernel
theorem dX4_init_9 : decode cX4_init 9 = .ok (.putfield 11, 3) := by decide +kernel
theorem dX4_init_12 : decode cX4_init 12 = .ok (.aload_n 0, 1) := by decide +kernel
theorem dX4_init_13 : decode cX4_init 13 = .ok (.new 15, 3) := by decide +kernel
theorem dX4_init_16 : decode cX4_init 16 = .ok (.dup, 1) := by decide +kernel
theorem dX4_init_17 : decode cX4_init 17 = .ok (.invokespecial 17, 3) := by decide +kernel
theorem dX4_init_20 : decode cX4_init 20 = .ok (.putfield 18, 3) := by decide +kernel
theorem dX4_init_23 : decode cX4_init 23 = .ok (.aload_n 0, 1) := by decide +kernel
theorem dX4_init_24 : decode cX4_init 24 = .ok (.new 22, 3) := by decide +kernel
theorem dX4_init_27 : decode cX4_init 27 = .ok (.dup, 1) := by decide +kernel
theorem dX4_init_28 : decode cX4_init 28 = .ok (.invokespecial 24, 3) := by decide +kernel
theorem dX4_init_31 : decode cX4_init 31 = .ok (.putfield 25, 3) := by decide +kernel
theorem dX4_init_34 : decode cX4_init 34 = .ok (.return_, 1) := by decide +kernel
set_option maxRecDepth 20000 in
theorem ggX4_open_X4_isStream : GoodIn wsX4_open wsX4_isStream := goodIn_r _ [9, 1, 43, 44, 45] (by decide +kernel) (by decide +kernel)
set_option maxRecDepth 20000 in
theorem gX4_open_X4_isStream : GoodIn wsX4_open (wsV RX4 29 RX4 yX4_isStream wsX4_isStream) := goodIn_app (goodIn_of _ (by decide +kernel)) ggX4_open_X4_isStream
set_option maxRecDepth 20000 in
theorem ggX4_open_X3_init : GoodIn wsX4_open wsX3_init := goodIn_r _ [12, 13, 14, 15, 16, 17, 18, 19, 20, 21, 22, 23, 24, 25, 26, 27, 28, 46, 47, 48, 49, 50, 51, 52, 53, 54, 55, 56, 57, 58, 59, 60, 61, 62, 63, 64] (by decide +kernel) (by decide +kernel)
set_option maxRecDepth 20000 in
theorem gX4_open_X3_init : GoodIn wsX4_open (wsX3_init) := ggX4_open_X3_init
set_option maxRecDepth 20000 in
theorem ggX4_open_X3_begin : GoodIn wsX4_open wsX3_begin := goodIn_r _ [32, 33, 34, 35, 36, 37, 38, 39, 40, 41, 42, 46, 47, 48, 49, 50, 51, 52, 53, 54, 55, 56, 57, 58, 59, 60, 61] (by decide +kernel) (by decide +kernel)
set_option maxRecDepth 20000 in
theorem gX4_open_X3_begin : GoodIn wsX4_open (wsV RX4 34 RX3 yX3_begin wsX3_begin) := goodIn_app (goodIn_of _ (by decide +kernel)) ggX4_open_X3_begin
theorem dX4_open_0 : decode cX4_open 0 = .ok (.aload_n 0, 1) := by decide +kernel
theorem dX4_open_1 : decode cX4_open 1 = .ok (.iload_n 1, 1) := by decide +kernel
theorem dX4_open_2 : decode cX4_open 2 = .ok (.invokevirtual 29, 3) := by decide +kernel
theorem dX4_open_5 : decode cX4_open 5 = .ok (.ifCond .eq 13, 3) := by decide +kernel
theorem dX4_open_8 : decode cX4_open 8 = .ok (.iload_n 2, 1) := by decide +kernel
theorem dX4_open_9 : decode cX4_open 9 = .ok (.ifCond .lt 9, 3) := by decide +kernel
theorem dX4_open_12 : decode cX4_open 12 = .ok (.iload_n 2, 1) := by decide +kernel
theorem dX4_open_13 : decode cX4_open 13 = .ok (.bipush 6, 2) := by decide +kernel
theorem dX4_open_15 : decode cX4_open 15 = .ok (.if_icmp .le 5, 3) := by decide +kernel
theorem dX4_open_18 : decode cX4_open 18 = .ok (.iconst 0, 1) := by decide +kernel
theorem dX4_open_19 : decode cX4_open 19 = .ok (.ireturn, 1) := by decide +kernel
theorem dX4_open_20 : decode cX4_open 20 = .ok (.iload_n 3, 1) := by decide +kernel
theorem dX4_open_21 : decode cX4_open 21 = .ok (.ifCond .lt 8, 3) := by decide +kernel
theorem dX4_open_24 : decode cX4_open 24 = .ok (.iload_n 3, 1) := by decide +kernel
theorem dX4_open_25 : decode cX4_open 25 = .ok (.iconst 2, 1) := by decide +kernel
theorem dX4_open_26 : decode cX4_open 26 = .ok (.if_icmp .le 5, 3) := by decide +kernel
theorem dX4_open_29 : decode cX4_open 29 = .ok (.iconst 0, 1) := by decide +kernel
theorem dX4_open_30 : decode cX4_open 30 = .ok (.ireturn, 1) := by decide +kernel
theorem dX4_open_31 : decode cX4_open 31 = .ok (.aload_n 0, 1) := by decide +kernel
theorem dX4_open_32 : decode cX4_open 32 = .ok (.getfield 11, 3) := by decide +kernel
theorem dX4_open_35 : decode cX4_open 35 = .ok (.iload_n 1, 1) := by decide +kernel
theorem dX4_open_36 : decode cX4_open 36 = .ok (.aaload, 1) := by decide +kernel
theorem dX4_open_37 : decode cX4_open 37 = .ok (.astore 4, 2) := by decide +kernel
theorem dX4_open_39 : decode cX4_open 39 = .ok (.aload 4, 2) := by decide +kernel
theorem dX4_open_41 : decode cX4_open 41 = .ok (.ifnonnull 20, 3) := by decide +kernel
theorem dX4_open_44 : decode cX4_open 44 = .ok (.new 9, 3) := by decide +kernel
theorem dX4_open_47 : decode cX4_open 47 = .ok (.dup, 1) := by decide +kernel
theorem dX4_open_48 : decode cX4_open 48 = .ok (.invokespecial 33, 3) := by decide +kernel
theorem dX4_open_51 : decode cX4_open 51 = .ok (.astore 4, 2) := by decide +kernel
theorem dX4_open_53 : decode cX4_open 53 = .ok (.aload_n 0, 1) := by decide +kernel
theorem dX4_open_54 : decode cX4_open 54 = .ok (.getfield 11, 3) := by decide +kernel
theorem dX4_open_57 : decode cX4_open 57 = .ok (.iload_n 1, 1) := by decide +kernel
theorem dX4_open_58 : decode cX4_open 58 = .ok (.aload 4, 2) := by decide +kernel
theorem dX4_open_60 : decode cX4_open 60 = .ok (.aastore, 1) := by decide +kernel
theorem dX4_open_61 : decode cX4_open 61 = .ok (.aload 4, 2) := by decide +kernel
theorem dX4_open_63 : decode cX4_open 63 = .ok (.iload_n 2, 1) := by decide +kernel
theorem dX4_open_64 : decode cX4_open 64 = .ok (.iload_n 3, 1) := by decide +kernel
theorem dX4_open_65 : decode cX4_open 65 = .ok (.invokevirtual 34, 3) := by decide +kernel
theorem dX4_open_68 : decode cX4_open 68 = .ok (.iconst 1, 1) := by decide +kernel
theorem dX4_open_69 : decode cX4_open 69 = .ok (.ireturn, 1) := by decide +kernel
theorem dX5_init_0 : decode cX5_init 0 = .ok (.aload_n 0, 1) := by decide +kernel
theorem dX5_init_1 : decode cX5_init 1 = .ok (.invokespecial 1, 3) := by decide +kernel
theorem dX5_init_4 : decode cX5_init 4 = .ok (.aload_n 0, 1) := by decide +kernel
theorem dX5_init_5 : decode cX5_init 5 = .ok (.iconst 4, 1) := by decide +kernel
theorem dX5_init_6 : decode cX5_init 6 = .ok (.newarray .boolean, 2) := by decide +kernel
theorem dX5_init_8 : decode cX5_init 8 = .ok (.putfield 7, 3) := by decide +kernel
theorem dX5_init_11 : decode cX5_init 11 = .ok (.aload_n 0, 1) := by decide +kernel
theorem dX5_init_12 : decode cX5_init 12 = .ok (.iconst 4, 1) := by decide +kernel
theorem dX5_init_13 : decode cX5_init 13 = .ok (.newarray .boolean, 2) := by decide +kernel
theorem dX5_init_15 : decode cX5_init 15 = .ok (.putfield 13, 3) := by decide +kernel
theorem dX5_init_18 : decode cX5_init 18 = .ok (.aload_n 0, 1) := by decide +kernel
theorem dX5_init_19 : decode cX5_init 19 = .ok (.iconst 4, 1) := by decide +kernel
theorem dX5_init_20 : decode cX5_init 20 = .ok (.newarray .int, 2) := by decide +kernel
theorem dX5_init_22 : decode cX5_init 22 = .ok (.putfield 16, 3) := by decide +kernel
theorem dX5_init_25 : decode cX5_init 25 = .ok (.aload_n 0, 1) := by decide +kernel
theorem dX5_init_26 : decode cX5_init 26 = .ok (.iconst 4, 1) := by decide +kernel
theorem dX5_init_27 : decode cX5_init 27 = .ok (.newarray .int, 2) := by decide +kernel
theorem dX5_init_29 : decode cX5_init 29 = .ok (.putfield 20, 3) := by decide +kernel
theorem dX5_init_32 : decode cX5_init 32 = .ok (.aload_n 0, 1) := by decide +kernel
theorem dX5_init_33 : decode cX5_init 33 = .ok (.iconst 4, 1) := by decide +kernel
theorem dX5_init_34 : decode cX5_init 34 = .ok (.newarray .int, 2) := by decide +kernel
theorem dX5_init_36 : decode cX5_init 36 = .ok (.putfield 23, 3) := by decide +kernel
theorem dX5_init_39 : decode cX5_init 39 = .ok (.aload_n 0, 1) := by decide +kernel
theorem dX5_init_40 : decode cX5_init 40 = .ok (.sipush 8000, 3) := by decide +kernel
theorem dX5_init_43 : decode cX5_init 43 = .ok (.newarray .int, 2) := by decide +kernel
theorem dX5_init_45 : decode cX5_init 45 = .ok (.putfield 26, 3) := by decide +kernel
theorem dX5_init_48 : decode cX5_init 48 = .ok (.aload_n 0, 1) := by decide +kernel
theorem dX5_init_49 : decode cX5_init 49 = .ok (.iconst 4, 1) := by decide +kernel
theorem dX5_init_50 : decode cX5_init 50 = .ok (.newarray .int, 2) := by decide +kernel
theorem dX5_init_52 : decode cX5_init 52 = .ok (.putfield 29, 3) := by decide +kernel
theorem dX5_init_55 : decode cX5_init 55 = .ok (.aload_n 0, 1) := by decide +kernel
theorem dX5_init_56 : decode cX5_init 56 = .ok (.sipush 8000, 3) := by decide +kernel
theorem dX5_init_59 : decode cX5_init 59 = .ok (.newarray .int, 2) := by decide +kernel
theorem dX5_init_61 : decode cX5_init 61 = .ok (.putfield 32, 3) := by decide +kernel
theorem dX5_init_64 : decode cX5_init 64 = .ok (.aload_n 0, 1) := by decide +kernel
theorem dX5_init_65 : decode cX5_init 65 = .ok (.sipush 8000, 3) := by decide +kernel
theorem dX5_init_68 : decode cX5_init 68 = .ok (.newarray .int, 2) := by decide +kernel
theorem dX5_init_70 : decode cX5_init 70 = .ok (.putfield 35, 3) := by decide +kernel
theorem dX5_init_73 : decode cX5_init 73 = .ok (.aload_n 0, 1) := by decide +kernel
theorem dX5_init_74 : decode cX5_init 74 = .ok (.sipush 8000, 3) := by decide +kernel
theorem dX5_init_77 : decode cX5_init 77 = .ok (.newarray .int, 2) := by decide +kernel
theorem dX5_init_79 : decode cX5_init 79 = .ok (.putfield 38, 3) := by decide +kernel
theorem dX5_init_82 : decode cX5_init 82 = .ok (.aload_n 0, 1) := by decide +kernel
theorem dX5_init_83 : decode cX5_init 83 = .ok (.sipush 8000, 3) := by decide +kernel
theorem dX5_init_86 : decode cX5_init 86 = .ok (.newarray .boolean, 2) := by decide +kernel
theorem dX5_init_88 : decode cX5_init 88 = .ok (.putfield 41, 3) := by decide +kernel
theorem dX5_init_91 : decode cX5_init 91 = .ok (.aload_n 0, 1) := by decide +kernel
theorem dX5_init_92 : decode cX5_init 92 = .ok (.iconst 4, 1) := by decide +kernel
theorem dX5_init_93 : decode cX5_init 93 = .ok (.newarray .int, 2) := by decide +kernel
theorem dX5_init_95 : decode cX5_init 95 = .ok (.putfield 44, 3) := by decide +kernel
theorem dX5_init_98 : decode cX5_init 98 = .ok (.aload_n 0, 1) := by decide +kernel
theorem dX5_init_99 : decode cX5_init 99 = .ok (.iconst 4, 1) := by decide +kernel
theorem dX5_init_100 : decode cX5_init 100 = .ok (.newarray .int, 2) := by decide +kernel
theorem dX5_init_102 : decode cX5_init 102 = .ok (.putfield 47, 3) := by decide +kernel
theorem dX5_init_105 : decode cX5_init 105 = .ok (.aload_n 0, 1) := by decide +kernel
theorem dX5_init_106 : decode cX5_init 106 = .ok (.iconst 4, 1) := by decide +kernel
theorem dX5_init_107 : decode cX5_init 107 = .ok (.newarray .int, 2) := by decide +kernel
theorem dX5_init_109 : decode cX5_init 109 = .ok (.putfield 50, 3) := by decide +kernel
theorem dX5_init_112 : decode cX5_init 112 = .ok (.aload_n 0, 1) := by decide +kernel
theorem dX5_init_113 : decode cX5_init 113 = .ok (.iconst 4, 1) := by decide +kernel
theorem dX5_init_114 : decode cX5_init 114 = .ok (.newarray .int, 2) := by decide +kernel
theorem dX5_init_116 : decode cX5_init 116 = .ok (.putfield 53, 3) := by decide +kernel
theorem dX5_init_119 : decode cX5_init 119 = .ok (.aload_n 0, 1) := by decide +kernel
theorem dX5_init_120 : decode cX5_init 120 = .ok (.iconst 4, 1) := by decide +kernel
theorem dX5_init_121 : decode cX5_init 121 = .ok (.newarray .int, 2) := by decide +kernel
theorem dX5_init_123 : decode cX5_init 123 = .ok (.putfield 56, 3) := by decide +kernel
theorem dX5_init_126 : decode cX5_init 126 = .ok (.aload_n 0, 1) := by decide +kernel
theorem dX5_init_127 : decode cX5_init 127 = .ok (.iconst 4, 1) := by decide +kernel
theorem dX5_init_128 : decode cX5_init 128 = .ok (.newarray .boolean, 2) := by decide +kernel
theorem dX5_init_130 : decode cX5_init 130 = .ok (.putfield 59, 3) := by decide +kernel
theorem dX5_init_133 : decode cX5_init 133 = .ok (.aload_n 0, 1) := by decide +kernel
theorem dX5_init_134 : decode cX5_init 134 = .ok (.sipush 6000, 3) := by decide +kernel
theorem dX5_init_137 : decode cX5_init 137 = .ok (.newarray .int, 2) := by decide +kernel
theorem dX5_init_139 : decode cX5_init 139 = .ok (.putfield 62, 3) := by decide +kernel
theorem dX5_init_142 : decode cX5_init 142 = .ok (.aload_n 0, 1) := by decide +kernel
theorem dX5_init_143 : decode cX5_init 143 = .ok (.sipush 6000, 3) := by decide +kernel
theorem dX5_init_146 : decode cX5_init 146 = .ok (.newarray .int, 2) := by decide +kernel
theorem dX5_init_148 : decode cX5_init 148 = .ok (.putfield 65, 3) := by decide +kernel
theorem dX5_init_151 : decode cX5_init 151 = .ok (.aload_n 0, 1) := by decide +kernel
theorem dX5_init_152 : decode cX5_init 152 = .ok (.iconst 0, 1) := by decide +kernel
theorem dX5_init_153 : decode cX5_init 153 = .ok (.putfield 68, 3) := by decide +kernel
theorem dX5_init_156 : decode cX5_init 156 = .ok (.return_, 1) := by decide +kernel
theorem dX5_isBegun_0 : decode cX5_isBegun 0 = .ok (.iconst 1, 1) := by decide +kernel
theorem dX5_isBegun_1 : decode cX5_isBegun 1 = .ok (.istore 7, 2) := by decide +kernel
theorem dX5_isBegun_3 : decode cX5_isBegun 3 = .ok (.iconst 0, 1) := by decide +kernel
theorem dX5_isBegun_4 : decode cX5_isBegun 4 = .ok (.istore 8, 2) := by decide +kernel
theorem dX5_isBegun_6 : decode cX5_isBegun 6 = .ok (.iload 8, 2) := by decide +kernel
theorem dX5_isBegun_8 : decode cX5_isBegun 8 = .ok (.iload_n 1, 1) := by decide +kernel
theorem dX5_isBegun_9 : decode cX5_isBegun 9 = .ok (.if_icmp .ge 74, 3) := by decide +kernel
theorem dX5_isBegun_83 : decode cX5_isBegun 83 = .ok (.iload 7, 2) := by decide +kernel
theorem dX5_isBegun_85 : decode cX5_isBegun 85 = .ok (.ireturn, 1) := by decide +kernel
set_option maxRecDepth 20000 in
theorem ggX5_findForm_X5_isBegun : GoodIn wsX5_findForm wsX5_isBegun := goodIn_r _ [6, 7, 8, 9, 10, 11, 12, 13, 14, 15, 16, 17, 18, 19, 20, 21, 22, 23, 24, 25, 26, 27, 28, 29, 30] (by decide +kernel) (by decide +kernel)
set_option maxRecDepth 20000 in
theorem gX5_findForm_X5_isBegun : GoodIn wsX5_findForm (wsV RX5 117 RX5 yX5_isBegun wsX5_isBegun) := goodIn_app (goodIn_of _ (by decide +kernel)) ggX5_findForm_X5_isBegun
theorem dX5_findForm_0 : decode cX5_findForm 0 = .ok (.aload_n 0, 1) := by decide +kernel
theorem dX5_findForm_1 : decode cX5_findForm 1 = .ok (.bipush 6, 2) := by decide +kernel
theorem dX5_findForm_3 : decode cX5_findForm 3 = .ok (.putfield 86, 3) := by decide +kernel
theorem dX5_findForm_6 : decode cX5_findForm 6 = .ok (.iload_n 1, 1) := by decide +kernel
theorem dX5_findForm_7 : decode cX5_findForm 7 = .ok (.iconst 3, 1) := by decide +kernel
theorem dX5_findForm_8 : decode cX5_findForm 8 = .ok (.if_icmp .lt 29, 3) := by decide +kernel
theorem dX5_findForm_37 : decode cX5_findForm 37 = .ok (.iload_n 1, 1) := by decide +kernel
theorem dX5_findForm_38 : decode cX5_findForm 38 = .ok (.iconst 4, 1) := by decide +kernel
theorem dX5_findForm_39 : decode cX5_findForm 39 = .ok (.if_icmp .lt 27, 3) := by decide +kernel
theorem dX5_findForm_66 : decode cX5_findForm 66 = .ok (.iload_n 1, 1) := by decide +kernel
theorem dX5_findForm_67 : decode cX5_findForm 67 = .ok (.iconst 4, 1) := by decide +kernel
theorem dX5_findForm_68 : decode cX5_findForm 68 = .ok (.if_icmp .lt 27, 3) := by decide +kernel
theorem dX5_findForm_95 : decode cX5_findForm 95 = .ok (.iload_n 1, 1) := by decide +kernel
theorem dX5_findForm_96 : decode cX5_findForm 96 = .ok (.iconst 2, 1) := by decide +kernel
theorem dX5_findForm_97 : decode cX5_findForm 97 = .ok (.if_icmp .lt 27, 3) := by decide +kernel
theorem dX5_findForm_124 : decode cX5_findForm 124 = .ok (.iload_n 1, 1) := by decide +kernel
theorem dX5_findForm_125 : decode cX5_findForm 125 = .ok (.iconst 2, 1) := by decide +kernel
theorem dX5_findForm_126 : decode cX5_findForm 126 = .ok (.if_icmp .lt 24, 3) := by decide +kernel
theorem dX5_findForm_150 : decode cX5_findForm 150 = .ok (.iconst 0, 1) := by decide +kernel
theorem dX5_findForm_151 : decode cX5_findForm 151 = .ok (.istore_n 3, 1) := by decide +kernel
theorem dX5_findForm_152 : decode cX5_findForm 152 = .ok (.iload_n 3, 1) := by decide +kernel
theorem dX5_findForm_153 : decode cX5_findForm 153 = .ok (.ifCond .eq 31, 3) := by decide +kernel
theorem dX5_findForm_184 : decode cX5_findForm 184 = .ok (.aload_n 0, 1) := by decide +kernel
theorem dX5_findForm_185 : decode cX5_findForm 185 = .ok (.iload_n 1, 1) := by decide +kernel
theorem dX5_findForm_186 : decode cX5_findForm 186 = .ok (.sipush 239, 3) := by decide +kernel
theorem dX5_findForm_189 : decode cX5_findForm 189 = .ok (.sipush 187, 3) := by decide +kernel
theorem dX5_findForm_192 : decode cX5_findForm 192 = .ok (.sipush 191, 3) := by decide +kernel
theorem dX5_findForm_195 : decode cX5_findForm 195 = .ok (.iconst 0, 1) := by decide +kernel
theorem dX5_findForm_196 : decode cX5_findForm 196 = .ok (.iconst 3, 1) := by decide +kernel
theorem dX5_findForm_197 : decode cX5_findForm 197 = .ok (.invokevirtual 117, 3) := by decide +kernel
theorem dX5_findForm_200 : decode cX5_findForm 200 = .ok (.ifCond .ne 54, 3) := by decide +kernel
theorem dX5_findForm_254 : decode cX5_findForm 254 = .ok (.iconst 1, 1) := by decide +kernel
theorem dX5_findForm_255 : decode cX5_findForm 255 = .ok (.goto 4, 3) := by decide +kernel
theorem dX5_findForm_259 : decode cX5_findForm 259 = .ok (.istore 4, 2) := by decide +kernel
theorem dX5_findForm_261 : decode cX5_findForm 261 = .ok (.iload_n 2, 1) := by decide +kernel
theorem dX5_findForm_262 : decode cX5_findForm 262 = .ok (.ifCond .ne 8, 3) := by decide +kernel
theorem dX5_findForm_265 : decode cX5_findForm 265 = .ok (.iload 4, 2) := by decide +kernel
theorem dX5_findForm_267 : decode cX5_findForm 267 = .ok (.ifCond .ne 8, 3) := by decide +kernel
theorem dX5_findForm_275 : decode cX5_findForm 275 = .ok (.iconst 0, 1) := by decide +kernel
theorem dX5_findForm_276 : decode cX5_findForm 276 = .ok (.ireturn, 1) := by decide +kernel
set_option maxRecDepth 20000 in
theorem ggX5_findAll_X5_findForm : GoodIn wsX5_findAll wsX5_findForm := goodIn_r _ [21, 13, 22, 23, 24, 20, 25, 2, 78, 79, 80, 81, 82, 83, 84, 85, 86, 87, 88, 89, 90, 91, 92, 93, 94, 95, 96, 97, 98, 99, 100] (by decide +kernel) (by decide +kernel)
set_option maxRecDepth 20000 in
theorem gX5_findAll_X5_findForm : GoodIn wsX5_findAll (wsV RX5 121 RX5 yX5_findForm wsX5_findForm) := goodIn_app (goodIn_of _ (by decide +kernel)) ggX5_findAll_X5_findForm
theorem dX5_findAll_0 : decode cX5_findAll 0 = .ok (.aload_n 0, 1) := by decide +kernel
theorem dX5_findAll_1 : decode cX5_findAll 1 = .ok (.getfield 29, 3) := by decide +kernel
theorem dX5_findAll_4 : decode cX5_findAll 4 = .ok (.iload_n 1, 1) := by decide +kernel
theorem dX5_findAll_5 : decode cX5_findAll 5 = .ok (.iaload, 1) := by decide +kernel
theorem dX5_findAll_6 : decode cX5_findAll 6 = .ok (.istore_n 2, 1) := by decide +kernel
theorem dX5_findAll_7 : decode cX5_findAll 7 = .ok (.iconst 0, 1) := by decide +kernel
theorem dX5_findAll_8 : decode cX5_findAll 8 = .ok (.istore_n 3, 1) := by decide +kernel
theorem dX5_findAll_9 : decode cX5_findAll 9 = .ok (.iload_n 3, 1) := by decide +kernel
theorem dX5_findAll_10 : decode cX5_findAll 10 = .ok (.iload_n 2, 1) := by decide +kernel
theorem dX5_findAll_11 : decode cX5_findAll 11 = .ok (.if_icmp .ge 27, 3) := by decide +kernel
theorem dX5_findAll_38 : decode cX5_findAll 38 = .ok (.aload_n 0, 1) := by decide +kernel
theorem dX5_findAll_39 : decode cX5_findAll 39 = .ok (.getfield 44, 3) := by decide +kernel
theorem dX5_findAll_42 : decode cX5_findAll 42 = .ok (.iload_n 1, 1) := by decide +kernel
theorem dX5_findAll_43 : decode cX5_findAll 43 = .ok (.iconst 0, 1) := by decide +kernel
theorem dX5_findAll_44 : decode cX5_findAll 44 = .ok (.iastore, 1) := by decide +kernel
theorem dX5_findAll_45 : decode cX5_findAll 45 = .ok (.aload_n 0, 1) := by decide +kernel
theorem dX5_findAll_46 : decode cX5_findAll 46 = .ok (.getfield 47, 3) := by decide +kernel
theorem dX5_findAll_49 : decode cX5_findAll 49 = .ok (.iload_n 1, 1) := by decide +kernel
theorem dX5_findAll_50 : decode cX5_findAll 50 = .ok (.iconst 0, 1) := by decide +kernel
theorem dX5_findAll_51 : decode cX5_findAll 51 = .ok (.iastore, 1) := by decide +kernel
theorem dX5_findAll_52 : decode cX5_findAll 52 = .ok (.aload_n 0, 1) := by decide +kernel
theorem dX5_findAll_53 : decode cX5_findAll 53 = .ok (.getfield 53, 3) := by decide +kernel
theorem dX5_findAll_56 : decode cX5_findAll 56 = .ok (.iload_n 1, 1) := by decide +kernel
theorem dX5_findAll_57 : decode cX5_findAll 57 = .ok (.iconst (-1), 1) := by decide +kernel
theorem dX5_findAll_58 : decode cX5_findAll 58 = .ok (.iastore, 1) := by decide +kernel
theorem dX5_findAll_59 : decode cX5_findAll 59 = .ok (.aload_n 0, 1) := by decide +kernel
theorem dX5_findAll_60 : decode cX5_findAll 60 = .ok (.getfield 56, 3) := by decide +kernel
theorem dX5_findAll_63 : decode cX5_findAll 63 = .ok (.iload_n 1, 1) := by decide +kernel
theorem dX5_findAll_64 : decode cX5_findAll 64 = .ok (.iconst (-1), 1) := by decide +kernel
theorem dX5_findAll_65 : decode cX5_findAll 65 = .ok (.iastore, 1) := by decide +kernel
theorem dX5_findAll_66 : decode cX5_findAll 66 = .ok (.aload_n 0, 1) := by decide +kernel
theorem dX5_findAll_67 : decode cX5_findAll 67 = .ok (.getfield 59, 3) := by decide +kernel
theorem dX5_findAll_70 : decode cX5_findAll 70 = .ok (.iload_n 1, 1) := by decide +kernel
theorem dX5_findAll_71 : decode cX5_findAll 71 = .ok (.iconst 0, 1) := by decide +kernel
theorem dX5_findAll_72 : decode cX5_findAll 72 = .ok (.bastore, 1) := by decide +kernel
theorem dX5_findAll_73 : decode cX5_findAll 73 = .ok (.aload_n 0, 1) := by decide +kernel
theorem dX5_findAll_74 : decode cX5_findAll 74 = .ok (.getfield 50, 3) := by decide +kernel
theorem dX5_findAll_77 : decode cX5_findAll 77 = .ok (.iload_n 1, 1) := by decide +kernel
theorem dX5_findAll_78 : decode cX5_findAll 78 = .ok (.iload_n 2, 1) := by decide +kernel
theorem dX5_findAll_79 : decode cX5_findAll 79 = .ok (.iastore, 1) := by decide +kernel
theorem dX5_findAll_80 : decode cX5_findAll 80 = .ok (.aload_n 0, 1) := by decide +kernel
theorem dX5_findAll_81 : decode cX5_findAll 81 = .ok (.getfield 20, 3) := by decide +kernel
theorem dX5_findAll_84 : decode cX5_findAll 84 = .ok (.iload_n 1, 1) := by decide +kernel
theorem dX5_findAll_85 : decode cX5_findAll 85 = .ok (.aload_n 0, 1) := by decide +kernel
theorem dX5_findAll_86 : decode cX5_findAll 86 = .ok (.getfield 16, 3) := by decide +kernel
theorem dX5_findAll_89 : decode cX5_findAll 89 = .ok (.iload_n 1, 1) := by decide +kernel
theorem dX5_findAll_90 : decode cX5_findAll 90 = .ok (.iaload, 1) := by decide +kernel
theorem dX5_findAll_91 : decode cX5_findAll 91 = .ok (.iastore, 1) := by decide +kernel
theorem dX5_findAll_92 : decode cX5_findAll 92 = .ok (.iconst 0, 1) := by decide +kernel
theorem dX5_findAll_93 : decode cX5_findAll 93 = .ok (.istore_n 3, 1) := by decide +kernel
theorem dX5_findAll_94 : decode cX5_findAll 94 = .ok (.aload_n 0, 1) := by decide +kernel
theorem dX5_findAll_95 : decode cX5_findAll 95 = .ok (.getfield 16, 3) := by decide +kernel
theorem dX5_findAll_98 : decode cX5_findAll 98 = .ok (.iload_n 1, 1) := by decide +kernel
theorem dX5_findAll_99 : decode cX5_findAll 99 = .ok (.iaload, 1) := by decide +kernel
theorem dX5_findAll_100 : decode cX5_findAll 100 = .ok (.bipush 6, 2) := by decide +kernel
theorem dX5_findAll_102 : decode cX5_findAll 102 = .ok (.if_icmp .ne 40, 3) := by decide +kernel
theorem dX5_findAll_105 : decode cX5_findAll 105 = .ok (.aload_n 0, 1) := by decide +kernel
theorem dX5_findAll_106 : decode cX5_findAll 106 = .ok (.iload_n 2, 1) := by decide +kernel
theorem dX5_findAll_107 : decode cX5_findAll 107 = .ok (.aload_n 0, 1) := by decide +kernel
theorem dX5_findAll_108 : decode cX5_findAll 108 = .ok (.getfield 13, 3) := by decide +kernel
theorem dX5_findAll_111 : decode cX5_findAll 111 = .ok (.iload_n 1, 1) := by decide +kernel
theorem dX5_findAll_112 : decode cX5_findAll 112 = .ok (.baload, 1) := by decide +kernel
theorem dX5_findAll_113 : decode cX5_findAll 113 = .ok (.invokevirtual 121, 3) := by decide +kernel
theorem dX5_findAll_116 : decode cX5_findAll 116 = .ok (.istore_n 3, 1) := by decide +kernel
theorem dX5_findAll_117 : decode cX5_findAll 117 = .ok (.aload_n 0, 1) := by decide +kernel
theorem dX5_findAll_118 : decode cX5_findAll 118 = .ok (.getfield 20, 3) := by decide +kernel
theorem dX5_findAll_121 : decode cX5_findAll 121 = .ok (.iload_n 1, 1) := by decide +kernel
theorem dX5_findAll_122 : decode cX5_findAll 122 = .ok (.aload_n 0, 1) := by decide +kernel
theorem dX5_findAll_123 : decode cX5_findAll 123 = .ok (.getfield 86, 3) := by decide +kernel
theorem dX5_findAll_126 : decode cX5_findAll 126 = .ok (.iastore, 1) := by decide +kernel
theorem dX5_findAll_127 : decode cX5_findAll 127 = .ok (.aload_n 0, 1) := by decide +kernel
theorem dX5_findAll_128 : decode cX5_findAll 128 = .ok (.getfield 59, 3) := by decide +kernel
theorem dX5_findAll_131 : decode cX5_findAll 131 = .ok (.iload_n 1, 1) := by decide +kernel
theorem dX5_findAll_132 : decode cX5_findAll 132 = .ok (.iload_n 3, 1) := by decide +kernel
theorem dX5_findAll_133 : decode cX5_findAll 133 = .ok (.ifCond .le 7, 3) := by decide +kernel
theorem dX5_findAll_140 : decode cX5_findAll 140 = .ok (.iconst 0, 1) := by decide +kernel
theorem dX5_findAll_141 : decode cX5_findAll 141 = .ok (.bastore, 1) := by decide +kernel
theorem dX5_findAll_142 : decode cX5_findAll 142 = .ok (.aload_n 0, 1) := by decide +kernel
theorem dX5_findAll_143 : decode cX5_findAll 143 = .ok (.getfield 20, 3) := by decide +kernel
theorem dX5_findAll_146 : decode cX5_findAll 146 = .ok (.iload_n 1, 1) := by decide +kernel
theorem dX5_findAll_147 : decode cX5_findAll 147 = .ok (.iaload, 1) := by decide +kernel
theorem dX5_findAll_148 : decode cX5_findAll 148 = .ok (.bipush 6, 2) := by decide +kernel
theorem dX5_findAll_150 : decode cX5_findAll 150 = .ok (.if_icmp .ne 4, 3) := by decide +kernel
theorem dX5_findAll_153 : decode cX5_findAll 153 = .ok (.return_, 1) := by decide +kernel
theorem dX5_findAll_154 : decode cX5_findAll 154 = .ok (.iconst 1, 1) := by decide +kernel
theorem dX5_findAll_155 : decode cX5_findAll 155 = .ok (.istore 4, 2) := by decide +kernel
theorem dX5_findAll_157 : decode cX5_findAll 157 = .ok (.iload 4, 2) := by decide +kernel
theorem dX5_findAll_159 : decode cX5_findAll 159 = .ok (.ifCond .eq 168, 3) := by decide +kernel
theorem dX5_findAll_162 : decode cX5_findAll 162 = .ok (.iload_n 3, 1) := by decide +kernel
theorem dX5_findAll_163 : decode cX5_findAll 163 = .ok (.iload_n 2, 1) := by decide +kernel
theorem dX5_findAll_164 : decode cX5_findAll 164 = .ok (.if_icmp .ge 163, 3) := by decide +kernel
theorem dX5_findAll_327 : decode cX5_findAll 327 = .ok (.aload_n 0, 1) := by decide +kernel
theorem dX5_findAll_328 : decode cX5_findAll 328 = .ok (.getfield 50, 3) := by decide +kernel
theorem dX5_findAll_331 : decode cX5_findAll 331 = .ok (.iload_n 1, 1) := by decide +kernel
theorem dX5_findAll_332 : decode cX5_findAll 332 = .ok (.iload_n 2, 1) := by decide +kernel
theorem dX5_findAll_333 : decode cX5_findAll 333 = .ok (.iload_n 3, 1) := by decide +kernel
theorem dX5_findAll_334 : decode cX5_findAll 334 = .ok (.isub, 1) := by decide +kernel
theorem dX5_findAll_335 : decode cX5_findAll 335 = .ok (.iastore, 1) := by decide +kernel
theorem dX5_findAll_336 : decode cX5_findAll 336 = .ok (.return_, 1) := by decide +kernel
set_option maxRecDepth 20000 in
theorem ggX5_open_X5_isStream : GoodIn wsX5_open wsX5_isStream := goodIn_r _ [9] (by decide +kernel) (by decide +kernel)
set_option maxRecDepth 20000 in
theorem gX5_open_X5_isStream : GoodIn wsX5_open (va_wsS RX5 134 yX5_isStream wsX5_isStream) := goodIn_app (goodIn_of _ (by decide +kernel)) ggX5_open_X5_isStream
set_option maxRecDepth 20000 in
theorem ggX5_open_X5_findAll : GoodIn wsX5_open wsX5_findAll := goodIn_r _ [13, 5, 14, 15, 16, 17, 18, 19, 20, 21, 22, 3, 2, 23, 24, 4, 25, 26, 27, 28, 8, 29, 30, 31, 32, 33, 34, 35, 36, 37, 38, 39, 40, 41, 42, 43, 44, 45, 46, 47, 48, 49, 50, 51, 52, 53, 54, 55, 56, 57, 58, 59, 60, 61, 62, 63, 64, 65, 66, 67, 68, 69, 70, 71, 72, 73, 74, 75, 76, 77, 78, 79, 80, 81, 82, 83, 84, 85, 86, 87, 88, 89, 90, 91, 92, 93, 94, 95, 96, 97, 98, 99, 100, 101, 102, 103, 104, 105, 106, 107, 108] (by decide +kernel) (by decide +kernel)
set_option maxRecDepth 20000 in
theorem gX5_open_X5_findAll : GoodIn wsX5_open (wsV RX5 138 RX5 yX5_findAll wsX5_findAll) := goodIn_app (goodIn_of _ (by decide +kernel)) ggX5_open_X5_findAll
theorem dX5_open_0 : decode cX5_open 0 = .ok (.iload_n 1, 1) := by decide +kernel
theorem dX5_open_1 : decode cX5_open 1 = .ok (.invokestatic 134, 3) := by decide +kernel
theorem dX5_open_4 : decode cX5_open 4 = .ok (.ifCond .eq 22, 3) := by decide +kernel
theorem dX5_open_7 : decode cX5_open 7 = .ok (.iload_n 2, 1) := by decide +kernel
theorem dX5_open_8 : decode cX5_open 8 = .ok (.ifCond .lt 18, 3) := by decide +kernel
theorem dX5_open_11 : decode cX5_open 11 = .ok (.iload_n 2, 1) := by decide +kernel
theorem dX5_open_12 : decode cX5_open 12 = .ok (.bipush 6, 2) := by decide +kernel
theorem dX5_open_14 : decode cX5_open 14 = .ok (.if_icmp .gt 12, 3) := by decide +kernel
theorem dX5_open_17 : decode cX5_open 17 = .ok (.iload_n 3, 1) := by decide +kernel
theorem dX5_open_18 : decode cX5_open 18 = .ok (.ifCond .lt 8, 3) := by decide +kernel
theorem dX5_open_21 : decode cX5_open 21 = .ok (.iload_n 3, 1) := by decide +kernel
theorem dX5_open_22 : decode cX5_open 22 = .ok (.iconst 2, 1) := by decide +kernel
theorem dX5_open_23 : decode cX5_open 23 = .ok (.if_icmp .le 5, 3) := by decide +kernel
theorem dX5_open_26 : decode cX5_open 26 = .ok (.iconst 0, 1) := by decide +kernel
theorem dX5_open_27 : decode cX5_open 27 = .ok (.ireturn, 1) := by decide +kernel
theorem dX5_open_28 : decode cX5_open 28 = .ok (.aload_n 0, 1) := by decide +kernel
theorem dX5_open_29 : decode cX5_open 29 = .ok (.getfield 7, 3) := by decide +kernel
theorem dX5_open_32 : decode cX5_open 32 = .ok (.iload_n 1, 1) := by decide +kernel
theorem dX5_open_33 : decode cX5_open 33 = .ok (.iconst 1, 1) := by decide +kernel
theorem dX5_open_34 : decode cX5_open 34 = .ok (.bastore, 1) := by decide +kernel
theorem dX5_open_35 : decode cX5_open 35 = .ok (.aload_n 0, 1) := by decide +kernel
theorem dX5_open_36 : decode cX5_open 36 = .ok (.getfield 13, 3) := by decide +kernel
theorem dX5_open_39 : decode cX5_open 39 = .ok (.iload_n 1, 1) := by decide +kernel
theorem dX5_open_40 : decode cX5_open 40 = .ok (.iconst 0, 1) := by decide +kernel
theorem dX5_open_41 : decode cX5_open 41 = .ok (.bastore, 1) := by decide +kernel
theorem dX5_open_42 : decode cX5_open 42 = .ok (.aload_n 0, 1) := by decide +kernel
theorem dX5_open_43 : decode cX5_open 43 = .ok (.getfield 16, 3) := by decide +kernel
theorem dX5_open_46 : decode cX5_open 46 = .ok (.iload_n 1, 1) := by decide +kernel
theorem dX5_open_47 : decode cX5_open 47 = .ok (.iload_n 2, 1) := by decide +kernel
theorem dX5_open_48 : decode cX5_open 48 = .ok (.iastore, 1) := by decide +kernel
theorem dX5_open_49 : decode cX5_open 49 = .ok (.aload_n 0, 1) := by decide +kernel
theorem dX5_open_50 : decode cX5_open 50 = .ok (.getfield 23, 3) := by decide +kernel
theorem dX5_open_53 : decode cX5_open 53 = .ok (.iload_n 1, 1) := by decide +kernel
theorem dX5_open_54 : decode cX5_open 54 = .ok (.iload_n 3, 1) := by decide +kernel
theorem dX5_open_55 : decode cX5_open 55 = .ok (.iastore, 1) := by decide +kernel
theorem dX5_open_56 : decode cX5_open 56 = .ok (.aload_n 0, 1) := by decide +kernel
theorem dX5_open_57 : decode cX5_open 57 = .ok (.getfield 29, 3) := by decide +kernel
theorem dX5_open_60 : decode cX5_open 60 = .ok (.iload_n 1, 1) := by decide +kernel
theorem dX5_open_61 : decode cX5_open 61 = .ok (.iconst 0, 1) := by decide +kernel
theorem dX5_open_62 : decode cX5_open 62 = .ok (.iastore, 1) := by decide +kernel
theorem dX5_open_63 : decode cX5_open 63 = .ok (.aload_n 0, 1) := by decide +kernel
theorem dX5_open_64 : decode cX5_open 64 = .ok (.iload_n 1, 1) := by decide +kernel
theorem dX5_open_65 : decode cX5_open 65 = .ok (.invokevirtual 138, 3) := by decide +kernel
theorem dX5_open_68 : decode cX5_open 68 = .ok (.iconst 1, 1) := by decide +kernel
theorem dX5_open_69 : decode cX5_open 69 = .ok (.ireturn, 1) := by decide +kernel
end
section
set_option maxHeartbeats 4000000 in
set_option maxRecDepth 100000 in
theorem kX2_init (l : Launch) (dC : Nat → ClassId) (dI : Nat → Nat → Nat) (h4 : Nat) (sz : Nat) : Met l yX2_init wsX2_init ({ frames := 1, cells := 0, slots := 0, locals := 12 } : Room) (va_Pc [.ref h4] (fun U => U.heap.size = sz ∧ va_P (dC, dI) vwCl [(h4, .inr (1, [.int 0, .int 0, .int 0]))] U.heap ∧ va_K (dC, dI) vwCl [] U ∧ va_D (fun _ => True) [(h4, .inr (1, [.int 0, .int 0, .int 0]))])) (va_Qv (fun (_ : Unit) => True) (fun _ t => va_P (dC, dI) vwCl [(h4, .inr (1, [.int 0, .int 0, .int 0]))] t.heap ∧ va_K (dC, dI) vwCl [] t ∧ va_D (va_A [(h4, .inr (1, [.int 0, .int 0, .int 0]))] sz) [(h4, .inr (1, [.int 0, .int 0, .int 0]))]) (va_A [(h4, .inr (1, [.int 0, .int 0, .int 0]))] sz)) 0 0 (va_A [(h4, .inr (1, [.int 0, .int 0, .int 0]))] sz) := by
  refine Met.ofW (cc := cX2_init) (maxL := 1) (ret := none) (by decide) rfl ?_
  intro p e s m args below meth c s₁ B hml hv
  obtain ⟨rfl, hsz, hP, hK, hD0⟩ := hv
  have hx := B.exec
  have hb := B.bytes
  have hr := B.returns
  have hts := atoms_spec (ws := wsX2_init) B.pre
  have hown : s.vm.findClass RX2 = some m.cls := findClass_of_methodNamed B.named
  have hlocks := B.notSynchronized
  have hin : meth.name = "<init>" := (name_of_methodNamed B.named B.method).1
  subst hsz
  have hD := hD0.self (sz := s.heap.size)
  generalize hAe : va_A [(h4, .inr (1, [.int 0, .int 0, .int 0]))] s.heap.size = A at hD ⊢
  have hA : ∀ q : Nat, s.heap.size ≤ q → A q := fun q h => by rw [← hAe]; exact Or.inr h
  have hS : va_S A s.heap s.heap [] := va_S.rf
  have hl := lv_entry ([.ref h4]) (n := 1) (Nat.le_of_ble_eq_true rfl)
  rw [lg_entry_eq]
  generalize (lg_sl ([.ref h4]) ++ List.replicate (1 - (lg_sl ([.ref h4])).length) Slot.unset).toArray = ls at hl ⊢
  have hl : lv_has ls 1 [(0, .ref h4)] := hl
  refine lv_aload_n hx hb dX2_init_0 rfl (lv_at hl 0 rfl) ?_
  refine W.objInit hx hb hown (hts (.methodLink RX2 3 objectInit) (by decide +kernel)) (hts (.instanceMethod objectInit) (by decide +kernel)) (hts (.code objectInit ⟨#[0xb1]⟩ 1 none) (by decide +kernel)) rfl (by rw [hml]; exact hl.1) rfl dX2_init_1 (Nat.le_of_ble_eq_true rfl) (Nat.le_of_ble_eq_true rfl) ?_
  refine W.eq (g2 := F0 m 4 ls []) rfl ?_
  have hP9 := hP.sub (ws' := [(h4, .inr (1, [.int 0, .int 0, .int 0]))]) [0] rfl
  have hD9 := hD.sub (ws' := [(h4, .inr (1, [.int 0, .int 0, .int 0]))]) [0] (by decide) rfl
  have hK9 := hK.sub (tys' := []) [] rfl
  exact W.vret hx hb hr (fun t ht hW => ⟨⟨(), rfl, trivial, by rw [ht]; exact hP9, va_K.moved hW.alike hK9, hD9⟩, hS.F ht⟩) hS.2.2 dX2_init_4
end
section
set_option maxHeartbeats 4000000 in
set_option maxRecDepth 100000 in
theorem kX1_init (l : Launch) (dC : Nat → ClassId) (dI : Nat → Nat → Nat) (h2 : Nat) (sz : Nat) : Met l yX1_init wsX1_init ({ frames := 1, cells := 1, slots := 6000, locals := 12 } : Room) (va_Pc [.ref h2] (fun U => U.heap.size = sz ∧ va_P (dC, dI) vwCl [(h2, .inr (0, [.null, .int 0]))] U.heap ∧ va_K (dC, dI) vwCl [] U ∧ va_D (fun _ => True) [(h2, .inr (0, [.null, .int 0]))])) (va_Qv (fun (_ : Unit) => True) (fun _ t => ∃ (h3 : Nat) (kI : ClassId), va_P (dC, dI) vwCl [(h2, .inr (0, [.ref h3, .int 0])), (h3, .inl (kI, 6000, .inl (fun _ => 0)))] t.heap ∧ va_K (dC, dI) vwCl [(kI, .int)] t ∧ va_D (va_A [(h2, .inr (0, [.null, .int 0]))] sz) [(h2, .inr (0, [.ref h3, .int 0])), (h3, .inl (kI, 6000, .inl (fun _ => 0)))]) (va_A [(h2, .inr (0, [.null, .int 0]))] sz)) 1 6000 (va_A [(h2, .inr (0, [.null, .int 0]))] sz) := by
  refine Met.ofW (cc := cX1_init) (maxL := 1) (ret := none) (by decide) rfl ?_
  intro p e s m args below meth c s₁ B hml hv
  obtain ⟨rfl, hsz, hP, hK, hD0⟩ := hv
  have hx := B.exec
  have hb := B.bytes
  have hr := B.returns
  have hts := atoms_spec (ws := wsX1_init) B.pre
  have hown : s.vm.findClass RX1 = some m.cls := findClass_of_methodNamed B.named
  have hlocks := B.notSynchronized
  have hin : meth.name = "<init>" := (name_of_methodNamed B.named B.method).1
  subst hsz
  have hD := hD0.self (sz := s.heap.size)
  generalize hAe : va_A [(h2, .inr (0, [.null, .int 0]))] s.heap.size = A at hD ⊢
  have hA : ∀ q : Nat, s.heap.size ≤ q → A q := fun q h => by rw [← hAe]; exact Or.inr h
  have hS : va_S A s.heap s.heap [] := va_S.rf
  have hl := lv_entry ([.ref h2]) (n := 1) (Nat.le_of_ble_eq_true rfl)
  rw [lg_entry_eq]
  generalize (lg_sl ([.ref h2]) ++ List.replicate (1 - (lg_sl ([.ref h2])).length) Slot.unset).toArray = ls at hl ⊢
  have hl : lv_has ls 1 [(0, .ref h2)] := hl
  refine lv_aload_n hx hb dX1_init_0 rfl (lv_at hl 0 rfl) ?_
  refine W.objInit hx hb hown (hts (.methodLink RX1 3 objectInit) (by decide +kernel)) (hts (.instanceMethod objectInit) (by decide +kernel)) (hts (.code objectInit ⟨#[0xb1]⟩ 1 none) (by decide +kernel)) rfl (by rw [hml]; exact hl.1) rfl dX1_init_1 (Nat.le_of_ble_eq_true rfl) (Nat.le_of_ble_eq_true rfl) ?_
  refine W.eq (g2 := F0 m 4 ls []) rfl ?_
  refine lv_aload_n hx hb dX1_init_4 rfl (lv_at hl 0 rfl) ?_
  refine lv_sipush (v := 6000) hx hb dX1_init_5 (by decide +kernel) ?_
  refine va_newa (atype := .int) (ty := .int) (a0 := (6000, .inl (fun _ => 0))) (N' := 6000) hx hb (hts (.arrayClass .int) (by decide +kernel)) rfl hK hP hD hS hA (fun cA => vp_cell_i cA 6000 (fun _ => 0)) (by decide +kernel) (by decide +kernel) (by decide +kernel) (Nat.le_of_ble_eq_true rfl) (Nat.le_of_ble_eq_true rfl) dX1_init_8 (fun q_1 k_2 H hK hP hD hS => ?_)
  have hP : va_P (dC, dI) vwCl [(h2, .inr (0, [.null, .int 0])), (q_1, .inl (k_2, 6000, .inl (fun _ => 0)))] H := hP
  have hD : va_D A [(h2, .inr (0, [.null, .int 0])), (q_1, .inl (k_2, 6000, .inl (fun _ => 0)))] := hD
  have hK : va_K (dC, dI) vwCl [(k_2, .int)] s := hK
  refine W.widen (k := 1) (n := 6000) (by omega) (by omega) ?_
  refine va_putF (D := (dC, dI)) (ci := 0) (v := .ref q_1) (ty := .array (.int)) (C := RX1) (T := TX1) (N := 2) hx hb hts (by decide +kernel) tyX1 tyX1_ok nmX1 hown hK hP hD hS 0 rfl rfl 0 (by decide) (hts (.fieldLink RX1 9 "SignForms$OutRow" "bytes" "[I") (by decide +kernel)) (fun _ h9 => h9) rfl hin rfl (by decide +kernel) rfl rfl (Nat.le_of_ble_eq_true rfl) dX1_init_10 (fun H locs hP hD hS => ?_)
  have hP : va_P (dC, dI) vwCl [(h2, .inr (0, [.ref q_1, .int 0])), (q_1, .inl (k_2, 6000, .inl (fun _ => 0)))] H := hP
  have hD : va_D A [(h2, .inr (0, [.ref q_1, .int 0])), (q_1, .inl (k_2, 6000, .inl (fun _ => 0)))] := hD
  refine lv_aload_n hx hb dX1_init_13 rfl (lv_at hl 0 rfl) ?_
  refine lv_iconst (v := 0) hx hb dX1_init_14 (by decide) ?_
  refine va_put (D := (dC, dI)) (ci := 0) (v := .int 0) (ty := .int) (C := RX1) (T := TX1) (N := 2) hx hb hts (by decide +kernel) tyX1 tyX1_ok nmX1 hown hK hP hD hS 0 rfl rfl 1 (by decide) (hts (.fieldLink RX1 15 "SignForms$OutRow" "count" "I") (by decide +kernel)) (fun _ h9 => h9) rfl (by decide +kernel) rfl rfl (Nat.le_of_ble_eq_true rfl) dX1_init_15 (fun H locs hP hD hS => ?_)
  have hP : va_P (dC, dI) vwCl [(h2, .inr (0, [.ref q_1, .int 0])), (q_1, .inl (k_2, 6000, .inl (fun _ => 0)))] H := hP
  have hD : va_D A [(h2, .inr (0, [.ref q_1, .int 0])), (q_1, .inl (k_2, 6000, .inl (fun _ => 0)))] := hD
  have hP9 := hP.sub (ws' := [(h2, .inr (0, [.ref q_1, .int 0])), (q_1, .inl (k_2, 6000, .inl (fun _ => 0)))]) [0, 1] rfl
  have hD9 := hD.sub (ws' := [(h2, .inr (0, [.ref q_1, .int 0])), (q_1, .inl (k_2, 6000, .inl (fun _ => 0)))]) [0, 1] (by decide) rfl
  have hK9 := hK.sub (tys' := [(k_2, .int)]) [0] rfl
  refine W.widen (k := 1) (n := 6000) (by omega) (by omega) ?_
  exact W.vret hx hb hr (fun t ht hW => ⟨⟨(), rfl, trivial, q_1, k_2, by rw [ht]; exact hP9, va_K.moved hW.alike hK9, hD9⟩, hS.F ht⟩) hS.2.2 dX1_init_18
end
section
set_option maxHeartbeats 4000000 in
set_option maxRecDepth 100000 in
theorem kX3_init (l : Launch) (dC : Nat → ClassId) (dI : Nat → Nat → Nat) (o0 : Nat) (sz : Nat) : Met l yX3_init wsX3_init ({ frames := 2, cells := 6, slots := 10003, locals := 32 } : Room) (va_Pc [.ref o0] (fun U => U.heap.size = sz ∧ va_P (dC, dI) vwCl [(o0, .inr (2, [.null, .null, .null, .null, .null, .null, .int 0, .int 0, .int 0, .int 0, .int 0, .int 0, .int 0, .int 0, .int 0, .int 0]))] U.heap ∧ va_K (dC, dI) vwCl [] U ∧ va_D (fun _ => True) [(o0, .inr (2, [.null, .null, .null, .null, .null, .null, .int 0, .int 0, .int 0, .int 0, .int 0, .int 0, .int 0, .int 0, .int 0, .int 0]))] ∧ va_Nw (.methodLinkNest RX3 29 yX2_init "SignForms") U)) (va_Qv (fun (_ : Unit) => True) (fun _ t => ∃ (o1 o2 o3 o4 o5 o6 : Nat), va_P (dC, dI) vwCl [(o0, .inr (2, [.ref o1, .ref o2, .ref o3, .ref o4, .ref o5, .ref o6, .int 0, .int 0, .int 0, .int 0, .int 0, .int 0, .int 0, .int 0, .int 0, .int 0]))] t.heap ∧ va_K (dC, dI) vwCl [] t ∧ va_D (va_A [(o0, .inr (2, [.null, .null, .null, .null, .null, .null, .int 0, .int 0, .int 0, .int 0, .int 0, .int 0, .int 0, .int 0, .int 0, .int 0]))] sz) [(o0, .inr (2, [.ref o1, .ref o2, .ref o3, .ref o4, .ref o5, .ref o6, .int 0, .int 0, .int 0, .int 0, .int 0, .int 0, .int 0, .int 0, .int 0, .int 0]))]) (va_A [(o0, .inr (2, [.null, .null, .null, .null, .null, .null, .int 0, .int 0, .int 0, .int 0, .int 0, .int 0, .int 0, .int 0, .int 0, .int 0]))] sz)) 6 10003 (va_A [(o0, .inr (2, [.null, .null, .null, .null, .null, .null, .int 0, .int 0, .int 0, .int 0, .int 0, .int 0, .int 0, .int 0, .int 0, .int 0]))] sz) := by
  refine Met.ofW (cc := cX3_init) (maxL := 1) (ret := none) (by decide) rfl ?_
  intro p e s m args below meth c s₁ B hml hv
  obtain ⟨rfl, hsz, hP, hK, hD0, hN⟩ := hv
  have hx := B.exec
  have hb := B.bytes
  have hr := B.returns
  have hts := atoms_spec (ws := wsX3_init) B.pre
  have hown : s.vm.findClass RX3 = some m.cls := findClass_of_methodNamed B.named
  have hlocks := B.notSynchronized
  have hin : meth.name = "<init>" := (name_of_methodNamed B.named B.method).1
  subst hsz
  have hD := hD0.self (sz := s.heap.size)
  generalize hAe : va_A [(o0, .inr (2, [.null, .null, .null, .null, .null, .null, .int 0, .int 0, .int 0, .int 0, .int 0, .int 0, .int 0, .int 0, .int 0, .int 0]))] s.heap.size = A at hD ⊢
  have hA : ∀ q : Nat, s.heap.size ≤ q → A q := fun q h => by rw [← hAe]; exact Or.inr h
  have hS : va_S A s.heap s.heap [] := va_S.rf
  have hl := lv_entry ([.ref o0]) (n := 1) (Nat.le_of_ble_eq_true rfl)
  rw [lg_entry_eq]
  generalize (lg_sl ([.ref o0]) ++ List.replicate (1 - (lg_sl ([.ref o0])).length) Slot.unset).toArray = ls at hl ⊢
  have hl : lv_has ls 1 [(0, .ref o0)] := hl
  refine lv_aload_n hx hb dX3_init_0 rfl (lv_at hl 0 rfl) ?_
  refine W.objInit hx hb hown (hts (.methodLink RX3 3 objectInit) (by decide +kernel)) (hts (.instanceMethod objectInit) (by decide +kernel)) (hts (.code objectInit ⟨#[0xb1]⟩ 1 none) (by decide +kernel)) rfl (by rw [hml]; exact hl.1) rfl dX3_init_1 (Nat.le_of_ble_eq_true rfl) (Nat.le_of_ble_eq_true rfl) ?_
  refine W.eq (g2 := F0 m 4 ls []) rfl ?_
  refine lv_aload_n hx hb dX3_init_4 rfl (lv_at hl 0 rfl) ?_
  refine lv_sipush (v := 2000) hx hb dX3_init_5 (by decide +kernel) ?_
  refine va_newa (atype := .int) (ty := .int) (a0 := (2000, .inl (fun _ => 0))) (N' := 2000) hx hb (hts (.arrayClass .int) (by decide +kernel)) rfl hK hP hD hS hA (fun cA => vp_cell_i cA 2000 (fun _ => 0)) (by decide +kernel) (by decide +kernel) (by decide +kernel) (Nat.le_of_ble_eq_true rfl) (Nat.le_of_ble_eq_true rfl) dX3_init_8 (fun q_1 k_2 H hK hP hD hS => ?_)
  have hP : va_P (dC, dI) vwCl [(o0, .inr (2, [.null, .null, .null, .null, .null, .null, .int 0, .int 0, .int 0, .int 0, .int 0, .int 0, .int 0, .int 0, .int 0, .int 0])), (q_1, .inl (k_2, 2000, .inl (fun _ => 0)))] H := hP
  have hD : va_D A [(o0, .inr (2, [.null, .null, .null, .null, .null, .null, .int 0, .int 0, .int 0, .int 0, .int 0, .int 0, .int 0, .int 0, .int 0, .int 0])), (q_1, .inl (k_2, 2000, .inl (fun _ => 0)))] := hD
  have hK : va_K (dC, dI) vwCl [(k_2, .int)] s := hK
  refine W.widen (k := 1) (n := 2000) (by omega) (by omega) ?_
  refine va_putF (D := (dC, dI)) (ci := 2) (v := .ref q_1) (ty := .array (.int)) (C := RX3) (T := TX3) (N := 16) hx hb hts (by decide +kernel) tyX3 tyX3_ok nmX3 hown hK hP hD hS 0 rfl rfl 0 (by decide) (hts (.fieldLink RX3 9 "SignForms$Stream" "bytes" "[I") (by decide +kernel)) (fun _ h9 => h9) rfl hin rfl (by decide +kernel) rfl rfl (Nat.le_of_ble_eq_true rfl) dX3_init_10 (fun H locs hP hD hS => ?_)
  have hP : va_P (dC, dI) vwCl [(o0, .inr (2, [.ref q_1, .null, .null, .null, .null, .null, .int 0, .int 0, .int 0, .int 0, .int 0, .int 0, .int 0, .int 0, .int 0, .int 0])), (q_1, .inl (k_2, 2000, .inl (fun _ => 0)))] H := hP
  have hD : va_D A [(o0, .inr (2, [.ref q_1, .null, .null, .null, .null, .null, .int 0, .int 0, .int 0, .int 0, .int 0, .int 0, .int 0, .int 0, .int 0, .int 0])), (q_1, .inl (k_2, 2000, .inl (fun _ => 0)))] := hD
  refine lv_aload_n hx hb dX3_init_13 rfl (lv_at hl 0 rfl) ?_
  refine lv_sipush (v := 2000) hx hb dX3_init_14 (by decide +kernel) ?_
  refine va_newa (atype := .int) (ty := .int) (a0 := (2000, .inl (fun _ => 0))) (N' := 2000) hx hb (hts (.arrayClass .int) (by decide +kernel)) rfl hK hP hD hS hA (fun cA => vp_cell_i cA 2000 (fun _ => 0)) (by decide +kernel) (by decide +kernel) (by decide +kernel) (Nat.le_of_ble_eq_true rfl) (Nat.le_of_ble_eq_true rfl) dX3_init_17 (fun q_3 k_4 H hK hP hD hS => ?_)
  have hP : va_P (dC, dI) vwCl [(o0, .inr (2, [.ref q_1, .null, .null, .null, .null, .null, .int 0, .int 0, .int 0, .int 0, .int 0, .int 0, .int 0, .int 0, .int 0, .int 0])), (q_1, .inl (k_2, 2000, .inl (fun _ => 0))), (q_3, .inl (k_4, 2000, .inl (fun _ => 0)))] H := hP
  have hD : va_D A [(o0, .inr (2, [.ref q_1, .null, .null, .null, .null, .null, .int 0, .int 0, .int 0, .int 0, .int 0, .int 0, .int 0, .int 0, .int 0, .int 0])), (q_1, .inl (k_2, 2000, .inl (fun _ => 0))), (q_3, .inl (k_4, 2000, .inl (fun _ => 0)))] := hD
  have hK : va_K (dC, dI) vwCl [(k_2, .int), (k_4, .int)] s := hK
  refine W.widen (k := 2) (n := 4000) (by omega) (by omega) ?_
  refine va_putF (D := (dC, dI)) (ci := 2) (v := .ref q_3) (ty := .array (.int)) (C := RX3) (T := TX3) (N := 16) hx hb hts (by decide +kernel) tyX3 tyX3_ok nmX3 hown hK hP hD hS 0 rfl rfl 1 (by decide) (hts (.fieldLink RX3 15 "SignForms$Stream" "signs" "[I") (by decide +kernel)) (fun _ h9 => h9) rfl hin rfl (by decide +kernel) rfl rfl (Nat.le_of_ble_eq_true rfl) dX3_init_19 (fun H locs hP hD hS => ?_)
  have hP : va_P (dC, dI) vwCl [(o0, .inr (2, [.ref q_1, .ref q_3, .null, .null, .null, .null, .int 0, .int 0, .int 0, .int 0, .int 0, .int 0, .int 0, .int 0, .int 0, .int 0])), (q_1, .inl (k_2, 2000, .inl (fun _ => 0))), (q_3, .inl (k_4, 2000, .inl (fun _ => 0)))] H := hP
  have hD : va_D A [(o0, .inr (2, [.ref q_1, .ref q_3, .null, .null, .null, .null, .int 0, .int 0, .int 0, .int 0, .int 0, .int 0, .int 0, .int 0, .int 0, .int 0])), (q_1, .inl (k_2, 2000, .inl (fun _ => 0))), (q_3, .inl (k_4, 2000, .inl (fun _ => 0)))] := hD
  refine lv_aload_n hx hb dX3_init_22 rfl (lv_at hl 0 rfl) ?_
  refine lv_sipush (v := 2000) hx hb dX3_init_23 (by decide +kernel) ?_
  refine va_newa (atype := .int) (ty := .int) (a0 := (2000, .inl (fun _ => 0))) (N' := 2000) hx hb (hts (.arrayClass .int) (by decide +kernel)) rfl hK hP hD hS hA (fun cA => vp_cell_i cA 2000 (fun _ => 0)) (by decide +kernel) (by decide +kernel) (by decide +kernel) (Nat.le_of_ble_eq_true rfl) (Nat.le_of_ble_eq_true rfl) dX3_init_26 (fun q_5 k_6 H hK hP hD hS => ?_)
  have hP : va_P (dC, dI) vwCl [(o0, .inr (2, [.ref q_1, .ref q_3, .null, .null, .null, .null, .int 0, .int 0, .int 0, .int 0, .int 0, .int 0, .int 0, .int 0, .int 0, .int 0])), (q_1, .inl (k_2, 2000, .inl (fun _ => 0))), (q_3, .inl (k_4, 2000, .inl (fun _ => 0))), (q_5, .inl (k_6, 2000, .inl (fun _ => 0)))] H := hP
  have hD : va_D A [(o0, .inr (2, [.ref q_1, .ref q_3, .null, .null, .null, .null, .int 0, .int 0, .int 0, .int 0, .int 0, .int 0, .int 0, .int 0, .int 0, .int 0])), (q_1, .inl (k_2, 2000, .inl (fun _ => 0))), (q_3, .inl (k_4, 2000, .inl (fun _ => 0))), (q_5, .inl (k_6, 2000, .inl (fun _ => 0)))] := hD
  have hK : va_K (dC, dI) vwCl [(k_2, .int), (k_4, .int), (k_6, .int)] s := hK
  refine W.widen (k := 3) (n := 6000) (by omega) (by omega) ?_
  refine va_putF (D := (dC, dI)) (ci := 2) (v := .ref q_5) (ty := .array (.int)) (C := RX3) (T := TX3) (N := 16) hx hb hts (by decide +kernel) tyX3 tyX3_ok nmX3 hown hK hP hD hS 0 rfl rfl 2 (by decide) (hts (.fieldLink RX3 18 "SignForms$Stream" "places" "[I") (by decide +kernel)) (fun _ h9 => h9) rfl hin rfl (by decide +kernel) rfl rfl (Nat.le_of_ble_eq_true rfl) dX3_init_28 (fun H locs hP hD hS => ?_)
  have hP : va_P (dC, dI) vwCl [(o0, .inr (2, [.ref q_1, .ref q_3, .ref q_5, .null, .null, .null, .int 0, .int 0, .int 0, .int 0, .int 0, .int 0, .int 0, .int 0, .int 0, .int 0])), (q_1, .inl (k_2, 2000, .inl (fun _ => 0))), (q_3, .inl (k_4, 2000, .inl (fun _ => 0))), (q_5, .inl (k_6, 2000, .inl (fun _ => 0)))] H := hP
  have hD : va_D A [(o0, .inr (2, [.ref q_1, .ref q_3, .ref q_5, .null, .null, .null, .int 0, .int 0, .int 0, .int 0, .int 0, .int 0, .int 0, .int 0, .int 0, .int 0])), (q_1, .inl (k_2, 2000, .inl (fun _ => 0))), (q_3, .inl (k_4, 2000, .inl (fun _ => 0))), (q_5, .inl (k_6, 2000, .inl (fun _ => 0)))] := hD
  refine lv_aload_n hx hb dX3_init_31 rfl (lv_at hl 0 rfl) ?_
  refine lv_sipush (v := 2000) hx hb dX3_init_32 (by decide +kernel) ?_
  refine va_newa (atype := .int) (ty := .int) (a0 := (2000, .inl (fun _ => 0))) (N' := 2000) hx hb (hts (.arrayClass .int) (by decide +kernel)) rfl hK hP hD hS hA (fun cA => vp_cell_i cA 2000 (fun _ => 0)) (by decide +kernel) (by decide +kernel) (by decide +kernel) (Nat.le_of_ble_eq_true rfl) (Nat.le_of_ble_eq_true rfl) dX3_init_35 (fun q_7 k_8 H hK hP hD hS => ?_)
  have hP : va_P (dC, dI) vwCl [(o0, .inr (2, [.ref q_1, .ref q_3, .ref q_5, .null, .null, .null, .int 0, .int 0, .int 0, .int 0, .int 0, .int 0, .int 0, .int 0, .int 0, .int 0])), (q_1, .inl (k_2, 2000, .inl (fun _ => 0))), (q_3, .inl (k_4, 2000, .inl (fun _ => 0))), (q_5, .inl (k_6, 2000, .inl (fun _ => 0))), (q_7, .inl (k_8, 2000, .inl (fun _ => 0)))] H := hP
  have hD : va_D A [(o0, .inr (2, [.ref q_1, .ref q_3, .ref q_5, .null, .null, .null, .int 0, .int 0, .int 0, .int 0, .int 0, .int 0, .int 0, .int 0, .int 0, .int 0])), (q_1, .inl (k_2, 2000, .inl (fun _ => 0))), (q_3, .inl (k_4, 2000, .inl (fun _ => 0))), (q_5, .inl (k_6, 2000, .inl (fun _ => 0))), (q_7, .inl (k_8, 2000, .inl (fun _ => 0)))] := hD
  have hK : va_K (dC, dI) vwCl [(k_2, .int), (k_4, .int), (k_6, .int), (k_8, .int)] s := hK
  refine W.widen (k := 4) (n := 8000) (by omega) (by omega) ?_
  refine va_putF (D := (dC, dI)) (ci := 2) (v := .ref q_7) (ty := .array (.int)) (C := RX3) (T := TX3) (N := 16) hx hb hts (by decide +kernel) tyX3 tyX3_ok nmX3 hown hK hP hD hS 0 rfl rfl 3 (by decide) (hts (.fieldLink RX3 21 "SignForms$Stream" "lengths" "[I") (by decide +kernel)) (fun _ h9 => h9) rfl hin rfl (by decide +kernel) rfl rfl (Nat.le_of_ble_eq_true rfl) dX3_init_37 (fun H locs hP hD hS => ?_)
  have hP : va_P (dC, dI) vwCl [(o0, .inr (2, [.ref q_1, .ref q_3, .ref q_5, .ref q_7, .null, .null, .int 0, .int 0, .int 0, .int 0, .int 0, .int 0, .int 0, .int 0, .int 0, .int 0])), (q_1, .inl (k_2, 2000, .inl (fun _ => 0))), (q_3, .inl (k_4, 2000, .inl (fun _ => 0))), (q_5, .inl (k_6, 2000, .inl (fun _ => 0))), (q_7, .inl (k_8, 2000, .inl (fun _ => 0)))] H := hP
  have hD : va_D A [(o0, .inr (2, [.ref q_1, .ref q_3, .ref q_5, .ref q_7, .null, .null, .int 0, .int 0, .int 0, .int 0, .int 0, .int 0, .int 0, .int 0, .int 0, .int 0])), (q_1, .inl (k_2, 2000, .inl (fun _ => 0))), (q_3, .inl (k_4, 2000, .inl (fun _ => 0))), (q_5, .inl (k_6, 2000, .inl (fun _ => 0))), (q_7, .inl (k_8, 2000, .inl (fun _ => 0)))] := hD
  refine lv_aload_n hx hb dX3_init_40 rfl (lv_at hl 0 rfl) ?_
  refine lv_sipush (v := 2000) hx hb dX3_init_41 (by decide +kernel) ?_
  refine va_newa (atype := .int) (ty := .int) (a0 := (2000, .inl (fun _ => 0))) (N' := 2000) hx hb (hts (.arrayClass .int) (by decide +kernel)) rfl hK hP hD hS hA (fun cA => vp_cell_i cA 2000 (fun _ => 0)) (by decide +kernel) (by decide +kernel) (by decide +kernel) (Nat.le_of_ble_eq_true rfl) (Nat.le_of_ble_eq_true rfl) dX3_init_44 (fun q_9 k_10 H hK hP hD hS => ?_)
  have hP : va_P (dC, dI) vwCl [(o0, .inr (2, [.ref q_1, .ref q_3, .ref q_5, .ref q_7, .null, .null, .int 0, .int 0, .int 0, .int 0, .int 0, .int 0, .int 0, .int 0, .int 0, .int 0])), (q_1, .inl (k_2, 2000, .inl (fun _ => 0))), (q_3, .inl (k_4, 2000, .inl (fun _ => 0))), (q_5, .inl (k_6, 2000, .inl (fun _ => 0))), (q_7, .inl (k_8, 2000, .inl (fun _ => 0))), (q_9, .inl (k_10, 2000, .inl (fun _ => 0)))] H := hP
  have hD : va_D A [(o0, .inr (2, [.ref q_1, .ref q_3, .ref q_5, .ref q_7, .null, .null, .int 0, .int 0, .int 0, .int 0, .int 0, .int 0, .int 0, .int 0, .int 0, .int 0])), (q_1, .inl (k_2, 2000, .inl (fun _ => 0))), (q_3, .inl (k_4, 2000, .inl (fun _ => 0))), (q_5, .inl (k_6, 2000, .inl (fun _ => 0))), (q_7, .inl (k_8, 2000, .inl (fun _ => 0))), (q_9, .inl (k_10, 2000, .inl (fun _ => 0)))] := hD
  have hK : va_K (dC, dI) vwCl [(k_2, .int), (k_4, .int), (k_6, .int), (k_8, .int), (k_10, .int)] s := hK
  refine W.widen (k := 5) (n := 10000) (by omega) (by omega) ?_
  refine va_putF (D := (dC, dI)) (ci := 2) (v := .ref q_9) (ty := .array (.int)) (C := RX3) (T := TX3) (N := 16) hx hb hts (by decide +kernel) tyX3 tyX3_ok nmX3 hown hK hP hD hS 0 rfl rfl 4 (by decide) (hts (.fieldLink RX3 24 "SignForms$Stream" "replaced" "[I") (by decide +kernel)) (fun _ h9 => h9) rfl hin rfl (by decide +kernel) rfl rfl (Nat.le_of_ble_eq_true rfl) dX3_init_46 (fun H locs hP hD hS => ?_)
  have hP : va_P (dC, dI) vwCl [(o0, .inr (2, [.ref q_1, .ref q_3, .ref q_5, .ref q_7, .ref q_9, .null, .int 0, .int 0, .int 0, .int 0, .int 0, .int 0, .int 0, .int 0, .int 0, .int 0])), (q_1, .inl (k_2, 2000, .inl (fun _ => 0))), (q_3, .inl (k_4, 2000, .inl (fun _ => 0))), (q_5, .inl (k_6, 2000, .inl (fun _ => 0))), (q_7, .inl (k_8, 2000, .inl (fun _ => 0))), (q_9, .inl (k_10, 2000, .inl (fun _ => 0)))] H := hP
  have hD : va_D A [(o0, .inr (2, [.ref q_1, .ref q_3, .ref q_5, .ref q_7, .ref q_9, .null, .int 0, .int 0, .int 0, .int 0, .int 0, .int 0, .int 0, .int 0, .int 0, .int 0])), (q_1, .inl (k_2, 2000, .inl (fun _ => 0))), (q_3, .inl (k_4, 2000, .inl (fun _ => 0))), (q_5, .inl (k_6, 2000, .inl (fun _ => 0))), (q_7, .inl (k_8, 2000, .inl (fun _ => 0))), (q_9, .inl (k_10, 2000, .inl (fun _ => 0)))] := hD
  refine lv_aload_n hx hb dX3_init_49 rfl (lv_at hl 0 rfl) ?_
  refine va_new (ci := 1) (fs := [.int 0, .int 0, .int 0]) (C := RX2) (T := TX2) (N := 3) hx hb hts (by decide +kernel) tyX2 tyX2_ok hown (hts (.classLink RX3 27 RX2) (by decide +kernel)) (hts (.instantiable RX2 3) (by decide +kernel)) (hts (.initialized RX2) (by decide +kernel)) hK hP hD hS hA rfl (fun j hj => by rcases (show j = 0 ∨ j = 1 ∨ j = 2 by omega) with rfl | rfl | rfl <;> rfl) (Nat.le_of_ble_eq_true rfl) (Nat.le_of_ble_eq_true rfl) dX3_init_50 (fun q_11 H hP hD hS => ?_)
  have hP : va_P (dC, dI) vwCl [(o0, .inr (2, [.ref q_1, .ref q_3, .ref q_5, .ref q_7, .ref q_9, .null, .int 0, .int 0, .int 0, .int 0, .int 0, .int 0, .int 0, .int 0, .int 0, .int 0])), (q_1, .inl (k_2, 2000, .inl (fun _ => 0))), (q_3, .inl (k_4, 2000, .inl (fun _ => 0))), (q_5, .inl (k_6, 2000, .inl (fun _ => 0))), (q_7, .inl (k_8, 2000, .inl (fun _ => 0))), (q_9, .inl (k_10, 2000, .inl (fun _ => 0))), (q_11, .inr (1, [.int 0, .int 0, .int 0]))] H := hP
  have hD : va_D A [(o0, .inr (2, [.ref q_1, .ref q_3, .ref q_5, .ref q_7, .ref q_9, .null, .int 0, .int 0, .int 0, .int 0, .int 0, .int 0, .int 0, .int 0, .int 0, .int 0])), (q_1, .inl (k_2, 2000, .inl (fun _ => 0))), (q_3, .inl (k_4, 2000, .inl (fun _ => 0))), (q_5, .inl (k_6, 2000, .inl (fun _ => 0))), (q_7, .inl (k_8, 2000, .inl (fun _ => 0))), (q_9, .inl (k_10, 2000, .inl (fun _ => 0))), (q_11, .inr (1, [.int 0, .int 0, .int 0]))] := hD
  refine W.widen (k := 6) (n := 10003) (by omega) (by omega) ?_
  refine lv_dup hx hb dX3_init_53 rfl ?_
  have hPc := hP.sub (ws' := [(q_11, .inr (1, [.int 0, .int 0, .int 0]))]) [6] rfl
  have hKc := hK.sub (tys' := []) [] rfl
  have hDc := hD.sub (ws' := [(q_11, .inr (1, [.int 0, .int 0, .int 0]))]) [6] (by decide) rfl
  have hFc := va_free (wc := [(q_11, .inr (1, [.int 0, .int 0, .int 0]))]) hD hS hA [6] rfl
  refine va_callv (va_runIN (As := []) (rest := [.ref q_11, .ref o0]) ⟨hx, hb, hml, hown, hts⟩ (kX2_init l dC dI q_11 H.size) ⟨va_cnB 0 hts gX3_init_X2_init_n29 rfl rfl rfl hN (hts (.initialized RX2) (by decide +kernel)) (by decide +kernel) ⟨Nat.le_of_ble_eq_true rfl, Nat.le_of_ble_eq_true rfl⟩, rfl, hts (.instanceMethod yX2_init) (by decide +kernel)⟩ ⟨fun a U g mk q => by obtain ⟨q0, q1, qP, qK, qD⟩ := q; exact ⟨q0, q1, qP, va_K.moved (u := U) (U := U.calling g mk a) (Vm.Alike.refl U.vm) qK, qD⟩, fun U hU hW => ⟨rfl, by rw [hU], by rw [hU]; exact hPc, va_K.moved hW.alike hKc, hDc.weaken (fun _ _ _ _ => trivial)⟩⟩ rfl rfl hl.1 rfl (lv_room (Nat.le_of_ble_eq_true rfl)) dX3_init_54 ⟨Nat.le_of_ble_eq_true rfl, Nat.le_of_ble_eq_true rfl⟩) hS (fun q _ h => hFc q h) hFc (fun u t H1 locs ht hvm hwr_12 hB hz1 hk1 hS => ?_)
  obtain ⟨hP1, hK1, hD1⟩ := hB
  rw [ht] at hP1
  obtain ⟨hP, hD⟩ := va_join (wr := [(o0, .inr (2, [.ref q_1, .ref q_3, .ref q_5, .ref q_7, .ref q_9, .null, .int 0, .int 0, .int 0, .int 0, .int 0, .int 0, .int 0, .int 0, .int 0, .int 0])), (q_1, .inl (k_2, 2000, .inl (fun _ => 0))), (q_3, .inl (k_4, 2000, .inl (fun _ => 0))), (q_5, .inl (k_6, 2000, .inl (fun _ => 0))), (q_7, .inl (k_8, 2000, .inl (fun _ => 0))), (q_9, .inl (k_10, 2000, .inl (fun _ => 0)))]) (w1 := [(q_11, .inr (1, [.int 0, .int 0, .int 0]))]) hP hD [6] [0, 1, 2, 3, 4, 5] rfl rfl (by decide) (by decide) hk1 hFc hP1 hD1
  generalize H1 = H at hP hS ⊢
  have hP : va_P (dC, dI) vwCl [(o0, .inr (2, [.ref q_1, .ref q_3, .ref q_5, .ref q_7, .ref q_9, .null, .int 0, .int 0, .int 0, .int 0, .int 0, .int 0, .int 0, .int 0, .int 0, .int 0])), (q_1, .inl (k_2, 2000, .inl (fun _ => 0))), (q_3, .inl (k_4, 2000, .inl (fun _ => 0))), (q_5, .inl (k_6, 2000, .inl (fun _ => 0))), (q_7, .inl (k_8, 2000, .inl (fun _ => 0))), (q_9, .inl (k_10, 2000, .inl (fun _ => 0))), (q_11, .inr (1, [.int 0, .int 0, .int 0]))] H := hP
  have hD : va_D A [(o0, .inr (2, [.ref q_1, .ref q_3, .ref q_5, .ref q_7, .ref q_9, .null, .int 0, .int 0, .int 0, .int 0, .int 0, .int 0, .int 0, .int 0, .int 0, .int 0])), (q_1, .inl (k_2, 2000, .inl (fun _ => 0))), (q_3, .inl (k_4, 2000, .inl (fun _ => 0))), (q_5, .inl (k_6, 2000, .inl (fun _ => 0))), (q_7, .inl (k_8, 2000, .inl (fun _ => 0))), (q_9, .inl (k_10, 2000, .inl (fun _ => 0))), (q_11, .inr (1, [.int 0, .int 0, .int 0]))] := hD
  refine va_putF (D := (dC, dI)) (ci := 2) (v := .ref q_11) (ty := .object "SignForms$Part") (C := RX3) (T := TX3) (N := 16) hx hb hts (by decide +kernel) tyX3 tyX3_ok nmX3 hown hK hP hD hS 0 rfl rfl 5 (by decide) (hts (.fieldLink RX3 30 "SignForms$Stream" "part" "LSignForms$Part;") (by decide +kernel)) (fun _ h9 => h9) rfl hin rfl (by decide +kernel) rfl rfl (Nat.le_of_ble_eq_true rfl) dX3_init_57 (fun H locs hP hD hS => ?_)
  have hP : va_P (dC, dI) vwCl [(o0, .inr (2, [.ref q_1, .ref q_3, .ref q_5, .ref q_7, .ref q_9, .ref q_11, .int 0, .int 0, .int 0, .int 0, .int 0, .int 0, .int 0, .int 0, .int 0, .int 0])), (q_1, .inl (k_2, 2000, .inl (fun _ => 0))), (q_3, .inl (k_4, 2000, .inl (fun _ => 0))), (q_5, .inl (k_6, 2000, .inl (fun _ => 0))), (q_7, .inl (k_8, 2000, .inl (fun _ => 0))), (q_9, .inl (k_10, 2000, .inl (fun _ => 0))), (q_11, .inr (1, [.int 0, .int 0, .int 0]))] H := hP
  have hD : va_D A [(o0, .inr (2, [.ref q_1, .ref q_3, .ref q_5, .ref q_7, .ref q_9, .ref q_11, .int 0, .int 0, .int 0, .int 0, .int 0, .int 0, .int 0, .int 0, .int 0, .int 0])), (q_1, .inl (k_2, 2000, .inl (fun _ => 0))), (q_3, .inl (k_4, 2000, .inl (fun _ => 0))), (q_5, .inl (k_6, 2000, .inl (fun _ => 0))), (q_7, .inl (k_8, 2000, .inl (fun _ => 0))), (q_9, .inl (k_10, 2000, .inl (fun _ => 0))), (q_11, .inr (1, [.int 0, .int 0, .int 0]))] := hD
  have hP9 := hP.sub (ws' := [(o0, .inr (2, [.ref q_1, .ref q_3, .ref q_5, .ref q_7, .ref q_9, .ref q_11, .int 0, .int 0, .int 0, .int 0, .int 0, .int 0, .int 0, .int 0, .int 0, .int 0]))]) [0] rfl
  have hD9 := hD.sub (ws' := [(o0, .inr (2, [.ref q_1, .ref q_3, .ref q_5, .ref q_7, .ref q_9, .ref q_11, .int 0, .int 0, .int 0, .int 0, .int 0, .int 0, .int 0, .int 0, .int 0, .int 0]))]) [0] (by decide) rfl
  have hK9 := hK.sub (tys' := []) [] rfl
  refine W.widen (k := 6) (n := 10003) (by omega) (by omega) ?_
  exact W.vret hx hb hr (fun t ht hW => ⟨⟨(), rfl, trivial, q_1, q_3, q_5, q_7, q_9, q_11, by rw [ht]; exact hP9, va_K.moved hW.alike hK9, hD9⟩, hS.F ht⟩) hS.2.2 dX3_init_60
end
section
set_option maxHeartbeats 4000000 in
set_option maxRecDepth 100000 in
theorem kX3_begin (l : Launch) (dC : Nat → ClassId) (dI : Nat → Nat → Nat) (o0 o1 o2 o3 o4 o5 o6 : Nat) (sz : Nat) (p0 p1 : Int32) : Met l yX3_begin wsX3_begin ({ frames := 0, cells := 0, slots := 0, locals := 0 } : Room) (va_Pc [.ref o0, .int p0, .int p1] (fun U => U.heap.size = sz ∧ va_P (dC, dI) vwCl [(o0, .inr (2, [.ref o1, .ref o2, .ref o3, .ref o4, .ref o5, .ref o6, .int 0, .int 0, .int 0, .int 0, .int 0, .int 0, .int 0, .int 0, .int 0, .int 0]))] U.heap ∧ va_K (dC, dI) vwCl [] U ∧ va_D (fun _ => True) [(o0, .inr (2, [.ref o1, .ref o2, .ref o3, .ref o4, .ref o5, .ref o6, .int 0, .int 0, .int 0, .int 0, .int 0, .int 0, .int 0, .int 0, .int 0, .int 0]))])) (va_Qv (fun (_ : Unit) => True) (fun _ _ => True) (va_A [(o0, .inr (2, [.ref o1, .ref o2, .ref o3, .ref o4, .ref o5, .ref o6, .int 0, .int 0, .int 0, .int 0, .int 0, .int 0, .int 0, .int 0, .int 0, .int 0]))] sz)) 0 0 (va_A [(o0, .inr (2, [.ref o1, .ref o2, .ref o3, .ref o4, .ref o5, .ref o6, .int 0, .int 0, .int 0, .int 0, .int 0, .int 0, .int 0, .int 0, .int 0, .int 0]))] sz) := by
  refine Met.ofW (cc := cX3_begin) (maxL := 3) (ret := none) (by decide) rfl ?_
  intro p e s m args below meth c s₁ B hml hv
  obtain ⟨rfl, hsz, hP, hK, hD0⟩ := hv
  have hx := B.exec
  have hb := B.bytes
  have hr := B.returns
  have hts := atoms_spec (ws := wsX3_begin) B.pre
  have hown : s.vm.findClass RX3 = some m.cls := findClass_of_methodNamed B.named
  have hlocks := B.notSynchronized
  subst hsz
  have hD := hD0.self (sz := s.heap.size)
  generalize hAe : va_A [(o0, .inr (2, [.ref o1, .ref o2, .ref o3, .ref o4, .ref o5, .ref o6, .int 0, .int 0, .int 0, .int 0, .int 0, .int 0, .int 0, .int 0, .int 0, .int 0]))] s.heap.size = A at hD ⊢
  have hA : ∀ q : Nat, s.heap.size ≤ q → A q := fun q h => by rw [← hAe]; exact Or.inr h
  have hS : va_S A s.heap s.heap [] := va_S.rf
  have hl := lv_entry ([.ref o0, .int p0, .int p1]) (n := 3) (Nat.le_of_ble_eq_true rfl)
  rw [lg_entry_eq]
  generalize (lg_sl ([.ref o0, .int p0, .int p1]) ++ List.replicate (3 - (lg_sl ([.ref o0, .int p0, .int p1])).length) Slot.unset).toArray = ls at hl ⊢
  have hl : lv_has ls 3 [(0, .ref o0), (1, .int p0), (2, .int p1)] := hl
  refine lv_aload_n hx hb dX3_begin_0 rfl (lv_at hl 0 rfl) ?_
  refine lv_iload_n hx hb dX3_begin_1 rfl (lv_at hl 1 rfl) ?_
  refine va_put (D := (dC, dI)) (ci := 2) (v := .int p0) (ty := .int) (C := RX3) (T := TX3) (N := 16) hx hb hts (by decide +kernel) tyX3 tyX3_ok nmX3 hown hK hP hD hS 0 rfl rfl 6 (by decide) (hts (.fieldLink RX3 34 "SignForms$Stream" "form" "I") (by decide +kernel)) (fun _ h9 => h9) rfl (by decide +kernel) rfl rfl (Nat.le_of_ble_eq_true rfl) dX3_begin_2 (fun H locs hP hD hS => ?_)
  have hP : va_P (dC, dI) vwCl [(o0, .inr (2, [.ref o1, .ref o2, .ref o3, .ref o4, .ref o5, .ref o6, .int p0, .int 0, .int 0, .int 0, .int 0, .int 0, .int 0, .int 0, .int 0, .int 0]))] H := hP
  have hD : va_D A [(o0, .inr (2, [.ref o1, .ref o2, .ref o3, .ref o4, .ref o5, .ref o6, .int p0, .int 0, .int 0, .int 0, .int 0, .int 0, .int 0, .int 0, .int 0, .int 0]))] := hD
  refine lv_aload_n hx hb dX3_begin_5 rfl (lv_at hl 0 rfl) ?_
  refine lv_iload_n hx hb dX3_begin_6 rfl (lv_at hl 2 rfl) ?_
  refine va_put (D := (dC, dI)) (ci := 2) (v := .int p1) (ty := .int) (C := RX3) (T := TX3) (N := 16) hx hb hts (by decide +kernel) tyX3 tyX3_ok nmX3 hown hK hP hD hS 0 rfl rfl 7 (by decide) (hts (.fieldLink RX3 38 "SignForms$Stream" "policy" "I") (by decide +kernel)) (fun _ h9 => h9) rfl (by decide +kernel) rfl rfl (Nat.le_of_ble_eq_true rfl) dX3_begin_7 (fun H locs hP hD hS => ?_)
  have hP : va_P (dC, dI) vwCl [(o0, .inr (2, [.ref o1, .ref o2, .ref o3, .ref o4, .ref o5, .ref o6, .int p0, .int p1, .int 0, .int 0, .int 0, .int 0, .int 0, .int 0, .int 0, .int 0]))] H := hP
  have hD : va_D A [(o0, .inr (2, [.ref o1, .ref o2, .ref o3, .ref o4, .ref o5, .ref o6, .int p0, .int p1, .int 0, .int 0, .int 0, .int 0, .int 0, .int 0, .int 0, .int 0]))] := hD
  refine lv_aload_n hx hb dX3_begin_10 rfl (lv_at hl 0 rfl) ?_
  refine lv_iconst (v := 0) hx hb dX3_begin_11 (by decide) ?_
  refine va_put (D := (dC, dI)) (ci := 2) (v := .int 0) (ty := .int) (C := RX3) (T := TX3) (N := 16) hx hb hts (by decide +kernel) tyX3 tyX3_ok nmX3 hown hK hP hD hS 0 rfl rfl 8 (by decide) (hts (.fieldLink RX3 41 "SignForms$Stream" "came" "I") (by decide +kernel)) (fun _ h9 => h9) rfl (by decide +kernel) rfl rfl (Nat.le_of_ble_eq_true rfl) dX3_begin_12 (fun H locs hP hD hS => ?_)
  have hP : va_P (dC, dI) vwCl [(o0, .inr (2, [.ref o1, .ref o2, .ref o3, .ref o4, .ref o5, .ref o6, .int p0, .int p1, .int 0, .int 0, .int 0, .int 0, .int 0, .int 0, .int 0, .int 0]))] H := hP
  have hD : va_D A [(o0, .inr (2, [.ref o1, .ref o2, .ref o3, .ref o4, .ref o5, .ref o6, .int p0, .int p1, .int 0, .int 0, .int 0, .int 0, .int 0, .int 0, .int 0, .int 0]))] := hD
  refine lv_aload_n hx hb dX3_begin_15 rfl (lv_at hl 0 rfl) ?_
  refine lv_iconst (v := 0) hx hb dX3_begin_16 (by decide) ?_
  refine va_put (D := (dC, dI)) (ci := 2) (v := .int 0) (ty := .int) (C := RX3) (T := TX3) (N := 16) hx hb hts (by decide +kernel) tyX3 tyX3_ok nmX3 hown hK hP hD hS 0 rfl rfl 9 (by decide) (hts (.fieldLink RX3 44 "SignForms$Stream" "decided" "I") (by decide +kernel)) (fun _ h9 => h9) rfl (by decide +kernel) rfl rfl (Nat.le_of_ble_eq_true rfl) dX3_begin_17 (fun H locs hP hD hS => ?_)
  have hP : va_P (dC, dI) vwCl [(o0, .inr (2, [.ref o1, .ref o2, .ref o3, .ref o4, .ref o5, .ref o6, .int p0, .int p1, .int 0, .int 0, .int 0, .int 0, .int 0, .int 0, .int 0, .int 0]))] H := hP
  have hD : va_D A [(o0, .inr (2, [.ref o1, .ref o2, .ref o3, .ref o4, .ref o5, .ref o6, .int p0, .int p1, .int 0, .int 0, .int 0, .int 0, .int 0, .int 0, .int 0, .int 0]))] := hD
  refine lv_aload_n hx hb dX3_begin_20 rfl (lv_at hl 0 rfl) ?_
  refine lv_iconst (v := 0) hx hb dX3_begin_21 (by decide) ?_
  refine va_put (D := (dC, dI)) (ci := 2) (v := .int 0) (ty := .int) (C := RX3) (T := TX3) (N := 16) hx hb hts (by decide +kernel) tyX3 tyX3_ok nmX3 hown hK hP hD hS 0 rfl rfl 10 (by decide) (hts (.fieldLink RX3 47 "SignForms$Stream" "signCount" "I") (by decide +kernel)) (fun _ h9 => h9) rfl (by decide +kernel) rfl rfl (Nat.le_of_ble_eq_true rfl) dX3_begin_22 (fun H locs hP hD hS => ?_)
  have hP : va_P (dC, dI) vwCl [(o0, .inr (2, [.ref o1, .ref o2, .ref o3, .ref o4, .ref o5, .ref o6, .int p0, .int p1, .int 0, .int 0, .int 0, .int 0, .int 0, .int 0, .int 0, .int 0]))] H := hP
  have hD : va_D A [(o0, .inr (2, [.ref o1, .ref o2, .ref o3, .ref o4, .ref o5, .ref o6, .int p0, .int p1, .int 0, .int 0, .int 0, .int 0, .int 0, .int 0, .int 0, .int 0]))] := hD
  refine lv_aload_n hx hb dX3_begin_25 rfl (lv_at hl 0 rfl) ?_
  refine lv_iconst (v := 0) hx hb dX3_begin_26 (by decide) ?_
  refine va_put (D := (dC, dI)) (ci := 2) (v := .int 0) (ty := .int) (C := RX3) (T := TX3) (N := 16) hx hb hts (by decide +kernel) tyX3 tyX3_ok nmX3 hown hK hP hD hS 0 rfl rfl 11 (by decide) (hts (.fieldLink RX3 50 "SignForms$Stream" "subparts" "I") (by decide +kernel)) (fun _ h9 => h9) rfl (by decide +kernel) rfl rfl (Nat.le_of_ble_eq_true rfl) dX3_begin_27 (fun H locs hP hD hS => ?_)
  have hP : va_P (dC, dI) vwCl [(o0, .inr (2, [.ref o1, .ref o2, .ref o3, .ref o4, .ref o5, .ref o6, .int p0, .int p1, .int 0, .int 0, .int 0, .int 0, .int 0, .int 0, .int 0, .int 0]))] H := hP
  have hD : va_D A [(o0, .inr (2, [.ref o1, .ref o2, .ref o3, .ref o4, .ref o5, .ref o6, .int p0, .int p1, .int 0, .int 0, .int 0, .int 0, .int 0, .int 0, .int 0, .int 0]))] := hD
  refine lv_aload_n hx hb dX3_begin_30 rfl (lv_at hl 0 rfl) ?_
  refine lv_iconst (v := (-1)) hx hb dX3_begin_31 (by decide) ?_
  refine va_put (D := (dC, dI)) (ci := 2) (v := .int (-1)) (ty := .int) (C := RX3) (T := TX3) (N := 16) hx hb hts (by decide +kernel) tyX3 tyX3_ok nmX3 hown hK hP hD hS 0 rfl rfl 12 (by decide) (hts (.fieldLink RX3 53 "SignForms$Stream" "firstSubpart" "I") (by decide +kernel)) (fun _ h9 => h9) rfl (by decide +kernel) rfl rfl (Nat.le_of_ble_eq_true rfl) dX3_begin_32 (fun H locs hP hD hS => ?_)
  have hP : va_P (dC, dI) vwCl [(o0, .inr (2, [.ref o1, .ref o2, .ref o3, .ref o4, .ref o5, .ref o6, .int p0, .int p1, .int 0, .int 0, .int 0, .int 0, .int (-1), .int 0, .int 0, .int 0]))] H := hP
  have hD : va_D A [(o0, .inr (2, [.ref o1, .ref o2, .ref o3, .ref o4, .ref o5, .ref o6, .int p0, .int p1, .int 0, .int 0, .int 0, .int 0, .int (-1), .int 0, .int 0, .int 0]))] := hD
  refine lv_aload_n hx hb dX3_begin_35 rfl (lv_at hl 0 rfl) ?_
  refine lv_iconst (v := (-1)) hx hb dX3_begin_36 (by decide) ?_
  refine va_put (D := (dC, dI)) (ci := 2) (v := .int (-1)) (ty := .int) (C := RX3) (T := TX3) (N := 16) hx hb hts (by decide +kernel) tyX3 tyX3_ok nmX3 hown hK hP hD hS 0 rfl rfl 13 (by decide) (hts (.fieldLink RX3 56 "SignForms$Stream" "brokenAt" "I") (by decide +kernel)) (fun _ h9 => h9) rfl (by decide +kernel) rfl rfl (Nat.le_of_ble_eq_true rfl) dX3_begin_37 (fun H locs hP hD hS => ?_)
  have hP : va_P (dC, dI) vwCl [(o0, .inr (2, [.ref o1, .ref o2, .ref o3, .ref o4, .ref o5, .ref o6, .int p0, .int p1, .int 0, .int 0, .int 0, .int 0, .int (-1), .int (-1), .int 0, .int 0]))] H := hP
  have hD : va_D A [(o0, .inr (2, [.ref o1, .ref o2, .ref o3, .ref o4, .ref o5, .ref o6, .int p0, .int p1, .int 0, .int 0, .int 0, .int 0, .int (-1), .int (-1), .int 0, .int 0]))] := hD
  refine lv_aload_n hx hb dX3_begin_40 rfl (lv_at hl 0 rfl) ?_
  refine lv_iconst (v := 0) hx hb dX3_begin_41 (by decide) ?_
  refine va_put (D := (dC, dI)) (ci := 2) (v := .int 0) (ty := .boolean) (C := RX3) (T := TX3) (N := 16) hx hb hts (by decide +kernel) tyX3 tyX3_ok nmX3 hown hK hP hD hS 0 rfl rfl 14 (by decide) (hts (.fieldLink RX3 59 "SignForms$Stream" "marked" "Z") (by decide +kernel)) (fun _ h9 => h9) rfl (by decide +kernel) rfl rfl (Nat.le_of_ble_eq_true rfl) dX3_begin_42 (fun H locs hP hD hS => ?_)
  have hP : va_P (dC, dI) vwCl [(o0, .inr (2, [.ref o1, .ref o2, .ref o3, .ref o4, .ref o5, .ref o6, .int p0, .int p1, .int 0, .int 0, .int 0, .int 0, .int (-1), .int (-1), .int 0, .int 0]))] H := hP
  have hD : va_D A [(o0, .inr (2, [.ref o1, .ref o2, .ref o3, .ref o4, .ref o5, .ref o6, .int p0, .int p1, .int 0, .int 0, .int 0, .int 0, .int (-1), .int (-1), .int 0, .int 0]))] := hD
  refine lv_aload_n hx hb dX3_begin_45 rfl (lv_at hl 0 rfl) ?_
  refine lv_iconst (v := 0) hx hb dX3_begin_46 (by decide) ?_
  refine va_put (D := (dC, dI)) (ci := 2) (v := .int 0) (ty := .boolean) (C := RX3) (T := TX3) (N := 16) hx hb hts (by decide +kernel) tyX3 tyX3_ok nmX3 hown hK hP hD hS 0 rfl rfl 15 (by decide) (hts (.fieldLink RX3 63 "SignForms$Stream" "ended" "Z") (by decide +kernel)) (fun _ h9 => h9) rfl (by decide +kernel) rfl rfl (Nat.le_of_ble_eq_true rfl) dX3_begin_47 (fun H locs hP hD hS => ?_)
  have hP : va_P (dC, dI) vwCl [(o0, .inr (2, [.ref o1, .ref o2, .ref o3, .ref o4, .ref o5, .ref o6, .int p0, .int p1, .int 0, .int 0, .int 0, .int 0, .int (-1), .int (-1), .int 0, .int 0]))] H := hP
  have hD : va_D A [(o0, .inr (2, [.ref o1, .ref o2, .ref o3, .ref o4, .ref o5, .ref o6, .int p0, .int p1, .int 0, .int 0, .int 0, .int 0, .int (-1), .int (-1), .int 0, .int 0]))] := hD
  exact W.vret hx hb hr (fun t ht hW => ⟨⟨(), rfl, trivial, trivial⟩, hS.F ht⟩) hS.2.2 dX3_begin_50
end
section
set_option maxHeartbeats 4000000 in
set_option maxRecDepth 100000 in
theorem kX4_init (l : Launch) (dC : Nat → ClassId) (dI : Nat → Nat → Nat) (h0 : Nat) (sz : Nat) : Met l yX4_init wsX4_init ({ frames := 2, cells := 4, slots := 6009, locals := 32 } : Room) (va_Pc [.ref h0] (fun U => U.heap.size = sz ∧ va_P (dC, dI) vwCl [(h0, .inr (3, [.null, .null, .null]))] U.heap ∧ va_K (dC, dI) vwCl [] U ∧ va_D (fun _ => True) [(h0, .inr (3, [.null, .null, .null]))] ∧ va_AO "SignForms$Stream" U ∧ va_Nw (.methodLinkNest RX4 24 yX2_init "SignForms") U)) (va_Qv (fun (_ : Unit) => True) (fun _ t => ∃ (h1 h2 h3 h4 : Nat) (kS kI : ClassId), va_P (dC, dI) vwCl [(h0, .inr (3, [.ref h1, .ref h2, .ref h4])), (h1, .inl (kS, 4, .inr (.inr (.inr (.inr (fun _ => none)))))), (h2, .inr (0, [.ref h3, .int 0])), (h3, .inl (kI, 6000, .inl (fun _ => 0))), (h4, .inr (1, [.int 0, .int 0, .int 0]))] t.heap ∧ va_K (dC, dI) vwCl [(kS, .object "SignForms$Stream"), (kI, .int)] t ∧ va_D (va_A [(h0, .inr (3, [.null, .null, .null]))] sz) [(h0, .inr (3, [.ref h1, .ref h2, .ref h4])), (h1, .inl (kS, 4, .inr (.inr (.inr (.inr (fun _ => none)))))), (h2, .inr (0, [.ref h3, .int 0])), (h3, .inl (kI, 6000, .inl (fun _ => 0))), (h4, .inr (1, [.int 0, .int 0, .int 0]))]) (va_A [(h0, .inr (3, [.null, .null, .null]))] sz)) 4 6009 (va_A [(h0, .inr (3, [.null, .null, .null]))] sz) := by
  refine Met.ofW (cc := cX4_init) (maxL := 1) (ret := none) (by decide) rfl ?_
  intro p e s m args below meth c s₁ B hml hv
  obtain ⟨rfl, hsz, hP, hK, hD0, hAO, hN⟩ := hv
  have hx := B.exec
  have hb := B.bytes
  have hr := B.returns
  have hts := atoms_spec (ws := wsX4_init) B.pre
  have hown : s.vm.findClass RX4 = some m.cls := findClass_of_methodNamed B.named
  have hlocks := B.notSynchronized
  have hin : meth.name = "<init>" := (name_of_methodNamed B.named B.method).1
  subst hsz
  have hD := hD0.self (sz := s.heap.size)
  generalize hAe : va_A [(h0, .inr (3, [.null, .null, .null]))] s.heap.size = A at hD ⊢
  have hA : ∀ q : Nat, s.heap.size ≤ q → A q := fun q h => by rw [← hAe]; exact Or.inr h
  have hS : va_S A s.heap s.heap [] := va_S.rf
  have hl := lv_entry ([.ref h0]) (n := 1) (Nat.le_of_ble_eq_true rfl)
  rw [lg_entry_eq]
  generalize (lg_sl ([.ref h0]) ++ List.replicate (1 - (lg_sl ([.ref h0])).length) Slot.unset).toArray = ls at hl ⊢
  have hl : lv_has ls 1 [(0, .ref h0)] := hl
  refine lv_aload_n hx hb dX4_init_0 rfl (lv_at hl 0 rfl) ?_
  refine W.objInit hx hb hown (hts (.methodLink RX4 3 objectInit) (by decide +kernel)) (hts (.instanceMethod objectInit) (by decide +kernel)) (hts (.code objectInit ⟨#[0xb1]⟩ 1 none) (by decide +kernel)) rfl (by rw [hml]; exact hl.1) rfl dX4_init_1 (Nat.le_of_ble_eq_true rfl) (Nat.le_of_ble_eq_true rfl) ?_
  refine W.eq (g2 := F0 m 4 ls []) rfl ?_
  refine lv_aload_n hx hb dX4_init_4 rfl (lv_at hl 0 rfl) ?_
  refine lv_iconst (v := 4) hx hb dX4_init_5 (by decide) ?_
  refine va_newq (N' := 4) hx hb hown (hts (.classLink RX4 9 RX3) (by decide +kernel)) hAO hK hP hD hS hA (by decide +kernel) (by decide +kernel) (by decide +kernel) (Nat.le_of_ble_eq_true rfl) (Nat.le_of_ble_eq_true rfl) dX4_init_6 (fun q_1 k_2 H hK hP hD hS => ?_)
  have hP : va_P (dC, dI) vwCl [(h0, .inr (3, [.null, .null, .null])), (q_1, .inl (k_2, 4, .inr (.inr (.inr (.inr (fun _ => none))))))] H := hP
  have hD : va_D A [(h0, .inr (3, [.null, .null, .null])), (q_1, .inl (k_2, 4, .inr (.inr (.inr (.inr (fun _ => none))))))] := hD
  have hK : va_K (dC, dI) vwCl [(k_2, .object "SignForms$Stream")] s := hK
  refine W.widen (k := 1) (n := 4) (by omega) (by omega) ?_
  refine va_putF (D := (dC, dI)) (ci := 3) (v := .ref q_1) (ty := .array (.object "SignForms$Stream")) (C := RX4) (T := TX4) (N := 3) hx hb hts (by decide +kernel) tyX4 tyX4_ok nmX4 hown hK hP hD hS 0 rfl rfl 0 (by decide) (hts (.fieldLink RX4 11 "SignForms" "streams" "[LSignForms$Stream;") (by decide +kernel)) (fun _ h9 => h9) rfl hin rfl (by decide +kernel) rfl rfl (Nat.le_of_ble_eq_true rfl) dX4_init_9 (fun H locs hP hD hS => ?_)
  have hP : va_P (dC, dI) vwCl [(h0, .inr (3, [.ref q_1, .null, .null])), (q_1, .inl (k_2, 4, .inr (.inr (.inr (.inr (fun _ => none))))))] H := hP
  have hD : va_D A [(h0, .inr (3, [.ref q_1, .null, .null])), (q_1, .inl (k_2, 4, .inr (.inr (.inr (.inr (fun _ => none))))))] := hD
  refine lv_aload_n hx hb dX4_init_12 rfl (lv_at hl 0 rfl) ?_
  refine va_new (ci := 0) (fs := [.null, .int 0]) (C := RX1) (T := TX1) (N := 2) hx hb hts (by decide +kernel) tyX1 tyX1_ok hown (hts (.classLink RX4 15 RX1) (by decide +kernel)) (hts (.instantiable RX1 2) (by decide +kernel)) (hts (.initialized RX1) (by decide +kernel)) hK hP hD hS hA rfl (fun j hj => by rcases (show j = 0 ∨ j = 1 by omega) with rfl | rfl <;> rfl) (Nat.le_of_ble_eq_true rfl) (Nat.le_of_ble_eq_true rfl) dX4_init_13 (fun q_3 H hP hD hS => ?_)
  have hP : va_P (dC, dI) vwCl [(h0, .inr (3, [.ref q_1, .null, .null])), (q_1, .inl (k_2, 4, .inr (.inr (.inr (.inr (fun _ => none)))))), (q_3, .inr (0, [.null, .int 0]))] H := hP
  have hD : va_D A [(h0, .inr (3, [.ref q_1, .null, .null])), (q_1, .inl (k_2, 4, .inr (.inr (.inr (.inr (fun _ => none)))))), (q_3, .inr (0, [.null, .int 0]))] := hD
  refine W.widen (k := 2) (n := 6) (by omega) (by omega) ?_
  refine lv_dup hx hb dX4_init_16 rfl ?_
  have hPc := hP.sub (ws' := [(q_3, .inr (0, [.null, .int 0]))]) [2] rfl
  have hKc := hK.sub (tys' := []) [] rfl
  have hDc := hD.sub (ws' := [(q_3, .inr (0, [.null, .int 0]))]) [2] (by decide) rfl
  have hFc := va_free (wc := [(q_3, .inr (0, [.null, .int 0]))]) hD hS hA [2] rfl
  refine va_callv (va_runI (As := []) (rest := [.ref q_3, .ref h0]) ⟨hx, hb, hml, hown, hts⟩ (kX1_init l dC dI q_3 H.size) (cwI 0 hts gX4_init_X1_init rfl rfl rfl (hts (.initialized RX1) (by decide +kernel)) (hts (.methodLink RX4 17 yX1_init) (by decide +kernel)) (hts (.instanceMethod yX1_init) (by decide +kernel)) rfl (by decide +kernel) ⟨Nat.le_of_ble_eq_true rfl, Nat.le_of_ble_eq_true rfl⟩) ⟨fun a U g mk q => by obtain ⟨q0, q1, qP, qK, qD⟩ := q; exact ⟨q0, q1, qP, va_K.moved (u := U) (U := U.calling g mk a) (Vm.Alike.refl U.vm) qK, qD⟩, fun U hU hW => ⟨rfl, by rw [hU], by rw [hU]; exact hPc, va_K.moved hW.alike hKc, hDc.weaken (fun _ _ _ _ => trivial)⟩⟩ rfl rfl hl.1 rfl (lv_room (Nat.le_of_ble_eq_true rfl)) dX4_init_17 ⟨Nat.le_of_ble_eq_true rfl, Nat.le_of_ble_eq_true rfl⟩) hS (fun q _ h => hFc q h) hFc (fun u t H1 locs ht hvm hwr_4 hB hz1 hk1 hS => ?_)
  obtain ⟨q_5, k_6, hP1, hK1, hD1⟩ := hB
  rw [ht] at hP1
  have hK1 := va_K.moved hvm.symm hK1
  have hK := (hK.sub (tys' := [(k_2, .object "SignForms$Stream")]) [0] rfl).app hK1
  obtain ⟨hP, hD⟩ := va_join (wr := [(h0, .inr (3, [.ref q_1, .null, .null])), (q_1, .inl (k_2, 4, .inr (.inr (.inr (.inr (fun _ => none))))))]) (w1 := [(q_3, .inr (0, [.ref q_5, .int 0])), (q_5, .inl (k_6, 6000, .inl (fun _ => 0)))]) hP hD [2] [0, 1] rfl rfl (by decide) (by decide) hk1 hFc hP1 hD1
  generalize H1 = H at hP hS ⊢
  have hP : va_P (dC, dI) vwCl [(h0, .inr (3, [.ref q_1, .null, .null])), (q_1, .inl (k_2, 4, .inr (.inr (.inr (.inr (fun _ => none)))))), (q_3, .inr (0, [.ref q_5, .int 0])), (q_5, .inl (k_6, 6000, .inl (fun _ => 0)))] H := hP
  have hD : va_D A [(h0, .inr (3, [.ref q_1, .null, .null])), (q_1, .inl (k_2, 4, .inr (.inr (.inr (.inr (fun _ => none)))))), (q_3, .inr (0, [.ref q_5, .int 0])), (q_5, .inl (k_6, 6000, .inl (fun _ => 0)))] := hD
  have hK : va_K (dC, dI) vwCl [(k_2, .object "SignForms$Stream"), (k_6, .int)] s := hK
  refine W.widen (k := 3) (n := 6006) (by omega) (by omega) ?_
  refine va_putF (D := (dC, dI)) (ci := 3) (v := .ref q_3) (ty := .object "SignForms$OutRow") (C := RX4) (T := TX4) (N := 3) hx hb hts (by decide +kernel) tyX4 tyX4_ok nmX4 hown hK hP hD hS 0 rfl rfl 1 (by decide) (hts (.fieldLink RX4 18 "SignForms" "outRow" "LSignForms$OutRow;") (by decide +kernel)) (fun _ h9 => h9) rfl hin rfl (by decide +kernel) rfl rfl (Nat.le_of_ble_eq_true rfl) dX4_init_20 (fun H locs hP hD hS => ?_)
  have hP : va_P (dC, dI) vwCl [(h0, .inr (3, [.ref q_1, .ref q_3, .null])), (q_1, .inl (k_2, 4, .inr (.inr (.inr (.inr (fun _ => none)))))), (q_3, .inr (0, [.ref q_5, .int 0])), (q_5, .inl (k_6, 6000, .inl (fun _ => 0)))] H := hP
  have hD : va_D A [(h0, .inr (3, [.ref q_1, .ref q_3, .null])), (q_1, .inl (k_2, 4, .inr (.inr (.inr (.inr (fun _ => none)))))), (q_3, .inr (0, [.ref q_5, .int 0])), (q_5, .inl (k_6, 6000, .inl (fun _ => 0)))] := hD
  refine lv_aload_n hx hb dX4_init_23 rfl (lv_at hl 0 rfl) ?_
  refine va_new (ci := 1) (fs := [.int 0, .int 0, .int 0]) (C := RX2) (T := TX2) (N := 3) hx hb hts (by decide +kernel) tyX2 tyX2_ok hown (hts (.classLink RX4 22 RX2) (by decide +kernel)) (hts (.instantiable RX2 3) (by decide +kernel)) (hts (.initialized RX2) (by decide +kernel)) hK hP hD hS hA rfl (fun j hj => by rcases (show j = 0 ∨ j = 1 ∨ j = 2 by omega) with rfl | rfl | rfl <;> rfl) (Nat.le_of_ble_eq_true rfl) (Nat.le_of_ble_eq_true rfl) dX4_init_24 (fun q_7 H hP hD hS => ?_)
  have hP : va_P (dC, dI) vwCl [(h0, .inr (3, [.ref q_1, .ref q_3, .null])), (q_1, .inl (k_2, 4, .inr (.inr (.inr (.inr (fun _ => none)))))), (q_3, .inr (0, [.ref q_5, .int 0])), (q_5, .inl (k_6, 6000, .inl (fun _ => 0))), (q_7, .inr (1, [.int 0, .int 0, .int 0]))] H := hP
  have hD : va_D A [(h0, .inr (3, [.ref q_1, .ref q_3, .null])), (q_1, .inl (k_2, 4, .inr (.inr (.inr (.inr (fun _ => none)))))), (q_3, .inr (0, [.ref q_5, .int 0])), (q_5, .inl (k_6, 6000, .inl (fun _ => 0))), (q_7, .inr (1, [.int 0, .int 0, .int 0]))] := hD
  refine W.widen (k := 4) (n := 6009) (by omega) (by omega) ?_
  refine lv_dup hx hb dX4_init_27 rfl ?_
  have hPc := hP.sub (ws' := [(q_7, .inr (1, [.int 0, .int 0, .int 0]))]) [4] rfl
  have hKc := hK.sub (tys' := []) [] rfl
  have hDc := hD.sub (ws' := [(q_7, .inr (1, [.int 0, .int 0, .int 0]))]) [4] (by decide) rfl
  have hFc := va_free (wc := [(q_7, .inr (1, [.int 0, .int 0, .int 0]))]) hD hS hA [4] rfl
  refine va_callv (va_runIN (As := []) (rest := [.ref q_7, .ref h0]) ⟨hx, hb, hml, hown, hts⟩ (kX2_init l dC dI q_7 H.size) ⟨va_cnB 0 hts gX4_init_X2_init_n24 rfl rfl rfl hN (hts (.initialized RX2) (by decide +kernel)) (by decide +kernel) ⟨Nat.le_of_ble_eq_true rfl, Nat.le_of_ble_eq_true rfl⟩, rfl, hts (.instanceMethod yX2_init) (by decide +kernel)⟩ ⟨fun a U g mk q => by obtain ⟨q0, q1, qP, qK, qD⟩ := q; exact ⟨q0, q1, qP, va_K.moved (u := U) (U := U.calling g mk a) (Vm.Alike.refl U.vm) qK, qD⟩, fun U hU hW => ⟨rfl, by rw [hU], by rw [hU]; exact hPc, va_K.moved hW.alike hKc, hDc.weaken (fun _ _ _ _ => trivial)⟩⟩ rfl rfl hl.1 rfl (lv_room (Nat.le_of_ble_eq_true rfl)) dX4_init_28 ⟨Nat.le_of_ble_eq_true rfl, Nat.le_of_ble_eq_true rfl⟩) hS (fun q _ h => hFc q h) hFc (fun u t H1 locs ht hvm hwr_8 hB hz1 hk1 hS => ?_)
  obtain ⟨hP1, hK1, hD1⟩ := hB
  rw [ht] at hP1
  obtain ⟨hP, hD⟩ := va_join (wr := [(h0, .inr (3, [.ref q_1, .ref q_3, .null])), (q_1, .inl (k_2, 4, .inr (.inr (.inr (.inr (fun _ => none)))))), (q_3, .inr (0, [.ref q_5, .int 0])), (q_5, .inl (k_6, 6000, .inl (fun _ => 0)))]) (w1 := [(q_7, .inr (1, [.int 0, .int 0, .int 0]))]) hP hD [4] [0, 1, 2, 3] rfl rfl (by decide) (by decide) hk1 hFc hP1 hD1
  generalize H1 = H at hP hS ⊢
  have hP : va_P (dC, dI) vwCl [(h0, .inr (3, [.ref q_1, .ref q_3, .null])), (q_1, .inl (k_2, 4, .inr (.inr (.inr (.inr (fun _ => none)))))), (q_3, .inr (0, [.ref q_5, .int 0])), (q_5, .inl (k_6, 6000, .inl (fun _ => 0))), (q_7, .inr (1, [.int 0, .int 0, .int 0]))] H := hP
  have hD : va_D A [(h0, .inr (3, [.ref q_1, .ref q_3, .null])), (q_1, .inl (k_2, 4, .inr (.inr (.inr (.inr (fun _ => none)))))), (q_3, .inr (0, [.ref q_5, .int 0])), (q_5, .inl (k_6, 6000, .inl (fun _ => 0))), (q_7, .inr (1, [.int 0, .int 0, .int 0]))] := hD
  refine va_putF (D := (dC, dI)) (ci := 3) (v := .ref q_7) (ty := .object "SignForms$Part") (C := RX4) (T := TX4) (N := 3) hx hb hts (by decide +kernel) tyX4 tyX4_ok nmX4 hown hK hP hD hS 0 rfl rfl 2 (by decide) (hts (.fieldLink RX4 25 "SignForms" "part" "LSignForms$Part;") (by decide +kernel)) (fun _ h9 => h9) rfl hin rfl (by decide +kernel) rfl rfl (Nat.le_of_ble_eq_true rfl) dX4_init_31 (fun H locs hP hD hS => ?_)
  have hP : va_P (dC, dI) vwCl [(h0, .inr (3, [.ref q_1, .ref q_3, .ref q_7])), (q_1, .inl (k_2, 4, .inr (.inr (.inr (.inr (fun _ => none)))))), (q_3, .inr (0, [.ref q_5, .int 0])), (q_5, .inl (k_6, 6000, .inl (fun _ => 0))), (q_7, .inr (1, [.int 0, .int 0, .int 0]))] H := hP
  have hD : va_D A [(h0, .inr (3, [.ref q_1, .ref q_3, .ref q_7])), (q_1, .inl (k_2, 4, .inr (.inr (.inr (.inr (fun _ => none)))))), (q_3, .inr (0, [.ref q_5, .int 0])), (q_5, .inl (k_6, 6000, .inl (fun _ => 0))), (q_7, .inr (1, [.int 0, .int 0, .int 0]))] := hD
  have hP9 := hP.sub (ws' := [(h0, .inr (3, [.ref q_1, .ref q_3, .ref q_7])), (q_1, .inl (k_2, 4, .inr (.inr (.inr (.inr (fun _ => none)))))), (q_3, .inr (0, [.ref q_5, .int 0])), (q_5, .inl (k_6, 6000, .inl (fun _ => 0))), (q_7, .inr (1, [.int 0, .int 0, .int 0]))]) [0, 1, 2, 3, 4] rfl
  have hD9 := hD.sub (ws' := [(h0, .inr (3, [.ref q_1, .ref q_3, .ref q_7])), (q_1, .inl (k_2, 4, .inr (.inr (.inr (.inr (fun _ => none)))))), (q_3, .inr (0, [.ref q_5, .int 0])), (q_5, .inl (k_6, 6000, .inl (fun _ => 0))), (q_7, .inr (1, [.int 0, .int 0, .int 0]))]) [0, 1, 2, 3, 4] (by decide) rfl
  have hK9 := hK.sub (tys' := [(k_2, .object "SignForms$Stream"), (k_6, .int)]) [0, 1] rfl
  refine W.widen (k := 4) (n := 6009) (by omega) (by omega) ?_
  exact W.vret hx hb hr (fun t ht hW => ⟨⟨(), rfl, trivial, q_1, q_3, q_5, q_7, k_2, k_6, by rw [ht]; exact hP9, va_K.moved hW.alike hK9, hD9⟩, hS.F ht⟩) hS.2.2 dX4_init_34
end
section
set_option maxHeartbeats 4000000 in
set_option maxRecDepth 100000 in
theorem kX5_init (l : Launch) (dC : Nat → ClassId) (dI : Nat → Nat → Nat) (g0 : Nat) (sz : Nat) : Met l yX5_init wsX5_init ({ frames := 1, cells := 19, slots := 52048, locals := 12 } : Room) (va_Pc [.ref g0] (fun U => U.heap.size = sz ∧ va_P (dC, dI) vwCl [(g0, .inr (4, [.null, .null, .null, .null, .null, .null, .null, .null, .null, .null, .null, .null, .null, .null, .null, .null, .null, .null, .int 0, .null, .int 0, .int 0, .int 0]))] U.heap ∧ va_K (dC, dI) vwCl [] U ∧ va_D (fun _ => True) [(g0, .inr (4, [.null, .null, .null, .null, .null, .null, .null, .null, .null, .null, .null, .null, .null, .null, .null, .null, .null, .null, .int 0, .null, .int 0, .int 0, .int 0]))])) (va_Qv (fun (_ : Unit) => True) (fun _ t => ∃ (g1 g2 g3 g4 g5 g6 g7 g8 g9 g10 g11 g12 g13 g14 g15 g16 g17 g18 g19 : Nat) (kG1 kG2 kG3 kG4 kG5 kG6 kG7 kG8 kG9 kG10 kG11 kG12 : ClassId), va_P (dC, dI) vwCl [(g0, .inr (4, [.ref g1, .ref g2, .ref g3, .ref g4, .ref g5, .ref g6, .ref g7, .ref g8, .ref g9, .ref g10, .ref g11, .ref g12, .ref g13, .ref g14, .ref g15, .ref g16, .ref g17, .ref g18, .int 0, .ref g19, .int 0, .int 0, .int 0])), (g1, .inl (kG1, 4, .inl (fun _ => 0))), (g2, .inl (kG2, 4, .inl (fun _ => 0))), (g3, .inl (kG3, 4, .inl (fun _ => 0))), (g4, .inl (kG4, 4, .inl (fun _ => 0))), (g5, .inl (kG5, 4, .inl (fun _ => 0))), (g7, .inl (kG6, 4, .inl (fun _ => 0))), (g12, .inl (kG7, 4, .inl (fun _ => 0))), (g13, .inl (kG8, 4, .inl (fun _ => 0))), (g14, .inl (kG9, 4, .inl (fun _ => 0))), (g15, .inl (kG10, 4, .inl (fun _ => 0))), (g16, .inl (kG11, 4, .inl (fun _ => 0))), (g17, .inl (kG12, 4, .inl (fun _ => 0)))] t.heap ∧ va_K (dC, dI) vwCl [(kG1, .boolean), (kG2, .boolean), (kG3, .int), (kG4, .int), (kG5, .int), (kG6, .int), (kG7, .int), (kG8, .int), (kG9, .int), (kG10, .int), (kG11, .int), (kG12, .boolean)] t ∧ va_D (va_A [(g0, .inr (4, [.null, .null, .null, .null, .null, .null, .null, .null, .null, .null, .null, .null, .null, .null, .null, .null, .null, .null, .int 0, .null, .int 0, .int 0, .int 0]))] sz) [(g0, .inr (4, [.ref g1, .ref g2, .ref g3, .ref g4, .ref g5, .ref g6, .ref g7, .ref g8, .ref g9, .ref g10, .ref g11, .ref g12, .ref g13, .ref g14, .ref g15, .ref g16, .ref g17, .ref g18, .int 0, .ref g19, .int 0, .int 0, .int 0])), (g1, .inl (kG1, 4, .inl (fun _ => 0))), (g2, .inl (kG2, 4, .inl (fun _ => 0))), (g3, .inl (kG3, 4, .inl (fun _ => 0))), (g4, .inl (kG4, 4, .inl (fun _ => 0))), (g5, .inl (kG5, 4, .inl (fun _ => 0))), (g7, .inl (kG6, 4, .inl (fun _ => 0))), (g12, .inl (kG7, 4, .inl (fun _ => 0))), (g13, .inl (kG8, 4, .inl (fun _ => 0))), (g14, .inl (kG9, 4, .inl (fun _ => 0))), (g15, .inl (kG10, 4, .inl (fun _ => 0))), (g16, .inl (kG11, 4, .inl (fun _ => 0))), (g17, .inl (kG12, 4, .inl (fun _ => 0)))]) (va_A [(g0, .inr (4, [.null, .null, .null, .null, .null, .null, .null, .null, .null, .null, .null, .null, .null, .null, .null, .null, .null, .null, .int 0, .null, .int 0, .int 0, .int 0]))] sz)) 19 52048 (va_A [(g0, .inr (4, [.null, .null, .null, .null, .null, .null, .null, .null, .null, .null, .null, .null, .null, .null, .null, .null, .null, .null, .int 0, .null, .int 0, .int 0, .int 0]))] sz) := by
  refine Met.ofW (cc := cX5_init) (maxL := 1) (ret := none) (by decide) rfl ?_
  intro p e s m args below meth c s₁ B hml hv
  obtain ⟨rfl, hsz, hP, hK, hD0⟩ := hv
  have hx := B.exec
  have hb := B.bytes
  have hr := B.returns
  have hts := atoms_spec (ws := wsX5_init) B.pre
  have hown : s.vm.findClass RX5 = some m.cls := findClass_of_methodNamed B.named
  have hlocks := B.notSynchronized
  have hin : meth.name = "<init>" := (name_of_methodNamed B.named B.method).1
  subst hsz
  have hD := hD0.self (sz := s.heap.size)
  generalize hAe : va_A [(g0, .inr (4, [.null, .null, .null, .null, .null, .null, .null, .null, .null, .null, .null, .null, .null, .null, .null, .null, .null, .null, .int 0, .null, .int 0, .int 0, .int 0]))] s.heap.size = A at hD ⊢
  have hA : ∀ q : Nat, s.heap.size ≤ q → A q := fun q h => by rw [← hAe]; exact Or.inr h
  have hS : va_S A s.heap s.heap [] := va_S.rf
  have hl := lv_entry ([.ref g0]) (n := 1) (Nat.le_of_ble_eq_true rfl)
  rw [lg_entry_eq]
  generalize (lg_sl ([.ref g0]) ++ List.replicate (1 - (lg_sl ([.ref g0])).length) Slot.unset).toArray = ls at hl ⊢
  have hl : lv_has ls 1 [(0, .ref g0)] := hl
  refine lv_aload_n hx hb dX5_init_0 rfl (lv_at hl 0 rfl) ?_
  refine W.objInit hx hb hown (hts (.methodLink RX5 1 objectInit) (by decide +kernel)) (hts (.instanceMethod objectInit) (by decide +kernel)) (hts (.code objectInit ⟨#[0xb1]⟩ 1 none) (by decide +kernel)) rfl (by rw [hml]; exact hl.1) rfl dX5_init_1 (Nat.le_of_ble_eq_true rfl) (Nat.le_of_ble_eq_true rfl) ?_
  refine W.eq (g2 := F0 m 4 ls []) rfl ?_
  refine lv_aload_n hx hb dX5_init_4 rfl (lv_at hl 0 rfl) ?_
  refine lv_iconst (v := 4) hx hb dX5_init_5 (by decide) ?_
  refine va_newa (atype := .boolean) (ty := .boolean) (a0 := (4, .inl (fun _ => 0))) (N' := 4) hx hb (hts (.arrayClass .boolean) (by decide +kernel)) rfl hK hP hD hS hA (fun cA => vp_cell_i cA 4 (fun _ => 0)) (by decide +kernel) (by decide +kernel) (by decide +kernel) (Nat.le_of_ble_eq_true rfl) (Nat.le_of_ble_eq_true rfl) dX5_init_6 (fun q_1 k_2 H hK hP hD hS => ?_)
  have hP : va_P (dC, dI) vwCl [(g0, .inr (4, [.null, .null, .null, .null, .null, .null, .null, .null, .null, .null, .null, .null, .null, .null, .null, .null, .null, .null, .int 0, .null, .int 0, .int 0, .int 0])), (q_1, .inl (k_2, 4, .inl (fun _ => 0)))] H := hP
  have hD : va_D A [(g0, .inr (4, [.null, .null, .null, .null, .null, .null, .null, .null, .null, .null, .null, .null, .null, .null, .null, .null, .null, .null, .int 0, .null, .int 0, .int 0, .int 0])), (q_1, .inl (k_2, 4, .inl (fun _ => 0)))] := hD
  have hK : va_K (dC, dI) vwCl [(k_2, .boolean)] s := hK
  refine W.widen (k := 1) (n := 4) (by omega) (by omega) ?_
  refine va_putF (D := (dC, dI)) (ci := 4) (v := .ref q_1) (ty := .array (.boolean)) (C := RX5) (T := TX5) (N := 23) hx hb hts (by decide +kernel) tyX5 tyX5_ok nmX5 hown hK hP hD hS 0 rfl rfl 0 (by decide) (hts (.fieldLink RX5 7 "SignFormsModel" "isOpen" "[Z") (by decide +kernel)) (fun _ h9 => h9) rfl hin rfl (by decide +kernel) rfl rfl (Nat.le_of_ble_eq_true rfl) dX5_init_8 (fun H locs hP hD hS => ?_)
  have hP : va_P (dC, dI) vwCl [(g0, .inr (4, [.ref q_1, .null, .null, .null, .null, .null, .null, .null, .null, .null, .null, .null, .null, .null, .null, .null, .null, .null, .int 0, .null, .int 0, .int 0, .int 0])), (q_1, .inl (k_2, 4, .inl (fun _ => 0)))] H := hP
  have hD : va_D A [(g0, .inr (4, [.ref q_1, .null, .null, .null, .null, .null, .null, .null, .null, .null, .null, .null, .null, .null, .null, .null, .null, .null, .int 0, .null, .int 0, .int 0, .int 0])), (q_1, .inl (k_2, 4, .inl (fun _ => 0)))] := hD
  refine lv_aload_n hx hb dX5_init_11 rfl (lv_at hl 0 rfl) ?_
  refine lv_iconst (v := 4) hx hb dX5_init_12 (by decide) ?_
  refine va_newa (atype := .boolean) (ty := .boolean) (a0 := (4, .inl (fun _ => 0))) (N' := 4) hx hb (hts (.arrayClass .boolean) (by decide +kernel)) rfl hK hP hD hS hA (fun cA => vp_cell_i cA 4 (fun _ => 0)) (by decide +kernel) (by decide +kernel) (by decide +kernel) (Nat.le_of_ble_eq_true rfl) (Nat.le_of_ble_eq_true rfl) dX5_init_13 (fun q_3 k_4 H hK hP hD hS => ?_)
  have hP : va_P (dC, dI) vwCl [(g0, .inr (4, [.ref q_1, .null, .null, .null, .null, .null, .null, .null, .null, .null, .null, .null, .null, .null, .null, .null, .null, .null, .int 0, .null, .int 0, .int 0, .int 0])), (q_1, .inl (k_2, 4, .inl (fun _ => 0))), (q_3, .inl (k_4, 4, .inl (fun _ => 0)))] H := hP
  have hD : va_D A [(g0, .inr (4, [.ref q_1, .null, .null, .null, .null, .null, .null, .null, .null, .null, .null, .null, .null, .null, .null, .null, .null, .null, .int 0, .null, .int 0, .int 0, .int 0])), (q_1, .inl (k_2, 4, .inl (fun _ => 0))), (q_3, .inl (k_4, 4, .inl (fun _ => 0)))] := hD
  have hK : va_K (dC, dI) vwCl [(k_2, .boolean), (k_4, .boolean)] s := hK
  refine W.widen (k := 2) (n := 8) (by omega) (by omega) ?_
  refine va_putF (D := (dC, dI)) (ci := 4) (v := .ref q_3) (ty := .array (.boolean)) (C := RX5) (T := TX5) (N := 23) hx hb hts (by decide +kernel) tyX5 tyX5_ok nmX5 hown hK hP hD hS 0 rfl rfl 1 (by decide) (hts (.fieldLink RX5 13 "SignFormsModel" "isEnded" "[Z") (by decide +kernel)) (fun _ h9 => h9) rfl hin rfl (by decide +kernel) rfl rfl (Nat.le_of_ble_eq_true rfl) dX5_init_15 (fun H locs hP hD hS => ?_)
  have hP : va_P (dC, dI) vwCl [(g0, .inr (4, [.ref q_1, .ref q_3, .null, .null, .null, .null, .null, .null, .null, .null, .null, .null, .null, .null, .null, .null, .null, .null, .int 0, .null, .int 0, .int 0, .int 0])), (q_1, .inl (k_2, 4, .inl (fun _ => 0))), (q_3, .inl (k_4, 4, .inl (fun _ => 0)))] H := hP
  have hD : va_D A [(g0, .inr (4, [.ref q_1, .ref q_3, .null, .null, .null, .null, .null, .null, .null, .null, .null, .null, .null, .null, .null, .null, .null, .null, .int 0, .null, .int 0, .int 0, .int 0])), (q_1, .inl (k_2, 4, .inl (fun _ => 0))), (q_3, .inl (k_4, 4, .inl (fun _ => 0)))] := hD
  refine lv_aload_n hx hb dX5_init_18 rfl (lv_at hl 0 rfl) ?_
  refine lv_iconst (v := 4) hx hb dX5_init_19 (by decide) ?_
  refine va_newa (atype := .int) (ty := .int) (a0 := (4, .inl (fun _ => 0))) (N' := 4) hx hb (hts (.arrayClass .int) (by decide +kernel)) rfl hK hP hD hS hA (fun cA => vp_cell_i cA 4 (fun _ => 0)) (by decide +kernel) (by decide +kernel) (by decide +kernel) (Nat.le_of_ble_eq_true rfl) (Nat.le_of_ble_eq_true rfl) dX5_init_20 (fun q_5 k_6 H hK hP hD hS => ?_)
  have hP : va_P (dC, dI) vwCl [(g0, .inr (4, [.ref q_1, .ref q_3, .null, .null, .null, .null, .null, .null, .null, .null, .null, .null, .null, .null, .null, .null, .null, .null, .int 0, .null, .int 0, .int 0, .int 0])), (q_1, .inl (k_2, 4, .inl (fun _ => 0))), (q_3, .inl (k_4, 4, .inl (fun _ => 0))), (q_5, .inl (k_6, 4, .inl (fun _ => 0)))] H := hP
  have hD : va_D A [(g0, .inr (4, [.ref q_1, .ref q_3, .null, .null, .null, .null, .null, .null, .null, .null, .null, .null, .null, .null, .null, .null, .null, .null, .int 0, .null, .int 0, .int 0, .int 0])), (q_1, .inl (k_2, 4, .inl (fun _ => 0))), (q_3, .inl (k_4, 4, .inl (fun _ => 0))), (q_5, .inl (k_6, 4, .inl (fun _ => 0)))] := hD
  have hK : va_K (dC, dI) vwCl [(k_2, .boolean), (k_4, .boolean), (k_6, .int)] s := hK
  refine W.widen (k := 3) (n := 12) (by omega) (by omega) ?_
  refine va_putF (D := (dC, dI)) (ci := 4) (v := .ref q_5) (ty := .array (.int)) (C := RX5) (T := TX5) (N := 23) hx hb hts (by decide +kernel) tyX5 tyX5_ok nmX5 hown hK hP hD hS 0 rfl rfl 2 (by decide) (hts (.fieldLink RX5 16 "SignFormsModel" "told" "[I") (by decide +kernel)) (fun _ h9 => h9) rfl hin rfl (by decide +kernel) rfl rfl (Nat.le_of_ble_eq_true rfl) dX5_init_22 (fun H locs hP hD hS => ?_)
  have hP : va_P (dC, dI) vwCl [(g0, .inr (4, [.ref q_1, .ref q_3, .ref q_5, .null, .null, .null, .null, .null, .null, .null, .null, .null, .null, .null, .null, .null, .null, .null, .int 0, .null, .int 0, .int 0, .int 0])), (q_1, .inl (k_2, 4, .inl (fun _ => 0))), (q_3, .inl (k_4, 4, .inl (fun _ => 0))), (q_5, .inl (k_6, 4, .inl (fun _ => 0)))] H := hP
  have hD : va_D A [(g0, .inr (4, [.ref q_1, .ref q_3, .ref q_5, .null, .null, .null, .null, .null, .null, .null, .null, .null, .null, .null, .null, .null, .null, .null, .int 0, .null, .int 0, .int 0, .int 0])), (q_1, .inl (k_2, 4, .inl (fun _ => 0))), (q_3, .inl (k_4, 4, .inl (fun _ => 0))), (q_5, .inl (k_6, 4, .inl (fun _ => 0)))] := hD
  refine lv_aload_n hx hb dX5_init_25 rfl (lv_at hl 0 rfl) ?_
  refine lv_iconst (v := 4) hx hb dX5_init_26 (by decide) ?_
  refine va_newa (atype := .int) (ty := .int) (a0 := (4, .inl (fun _ => 0))) (N' := 4) hx hb (hts (.arrayClass .int) (by decide +kernel)) rfl hK hP hD hS hA (fun cA => vp_cell_i cA 4 (fun _ => 0)) (by decide +kernel) (by decide +kernel) (by decide +kernel) (Nat.le_of_ble_eq_true rfl) (Nat.le_of_ble_eq_true rfl) dX5_init_27 (fun q_7 k_8 H hK hP hD hS => ?_)
  have hP : va_P (dC, dI) vwCl [(g0, .inr (4, [.ref q_1, .ref q_3, .ref q_5, .null, .null, .null, .null, .null, .null, .null, .null, .null, .null, .null, .null, .null, .null, .null, .int 0, .null, .int 0, .int 0, .int 0])), (q_1, .inl (k_2, 4, .inl (fun _ => 0))), (q_3, .inl (k_4, 4, .inl (fun _ => 0))), (q_5, .inl (k_6, 4, .inl (fun _ => 0))), (q_7, .inl (k_8, 4, .inl (fun _ => 0)))] H := hP
  have hD : va_D A [(g0, .inr (4, [.ref q_1, .ref q_3, .ref q_5, .null, .null, .null, .null, .null, .null, .null, .null, .null, .null, .null, .null, .null, .null, .null, .int 0, .null, .int 0, .int 0, .int 0])), (q_1, .inl (k_2, 4, .inl (fun _ => 0))), (q_3, .inl (k_4, 4, .inl (fun _ => 0))), (q_5, .inl (k_6, 4, .inl (fun _ => 0))), (q_7, .inl (k_8, 4, .inl (fun _ => 0)))] := hD
  have hK : va_K (dC, dI) vwCl [(k_2, .boolean), (k_4, .boolean), (k_6, .int), (k_8, .int)] s := hK
  refine W.widen (k := 4) (n := 16) (by omega) (by omega) ?_
  refine va_putF (D := (dC, dI)) (ci := 4) (v := .ref q_7) (ty := .array (.int)) (C := RX5) (T := TX5) (N := 23) hx hb hts (by decide +kernel) tyX5 tyX5_ok nmX5 hown hK hP hD hS 0 rfl rfl 3 (by decide) (hts (.fieldLink RX5 20 "SignFormsModel" "form" "[I") (by decide +kernel)) (fun _ h9 => h9) rfl hin rfl (by decide +kernel) rfl rfl (Nat.le_of_ble_eq_true rfl) dX5_init_29 (fun H locs hP hD hS => ?_)
  have hP : va_P (dC, dI) vwCl [(g0, .inr (4, [.ref q_1, .ref q_3, .ref q_5, .ref q_7, .null, .null, .null, .null, .null, .null, .null, .null, .null, .null, .null, .null, .null, .null, .int 0, .null, .int 0, .int 0, .int 0])), (q_1, .inl (k_2, 4, .inl (fun _ => 0))), (q_3, .inl (k_4, 4, .inl (fun _ => 0))), (q_5, .inl (k_6, 4, .inl (fun _ => 0))), (q_7, .inl (k_8, 4, .inl (fun _ => 0)))] H := hP
  have hD : va_D A [(g0, .inr (4, [.ref q_1, .ref q_3, .ref q_5, .ref q_7, .null, .null, .null, .null, .null, .null, .null, .null, .null, .null, .null, .null, .null, .null, .int 0, .null, .int 0, .int 0, .int 0])), (q_1, .inl (k_2, 4, .inl (fun _ => 0))), (q_3, .inl (k_4, 4, .inl (fun _ => 0))), (q_5, .inl (k_6, 4, .inl (fun _ => 0))), (q_7, .inl (k_8, 4, .inl (fun _ => 0)))] := hD
  refine lv_aload_n hx hb dX5_init_32 rfl (lv_at hl 0 rfl) ?_
  refine lv_iconst (v := 4) hx hb dX5_init_33 (by decide) ?_
  refine va_newa (atype := .int) (ty := .int) (a0 := (4, .inl (fun _ => 0))) (N' := 4) hx hb (hts (.arrayClass .int) (by decide +kernel)) rfl hK hP hD hS hA (fun cA => vp_cell_i cA 4 (fun _ => 0)) (by decide +kernel) (by decide +kernel) (by decide +kernel) (Nat.le_of_ble_eq_true rfl) (Nat.le_of_ble_eq_true rfl) dX5_init_34 (fun q_9 k_10 H hK hP hD hS => ?_)
  have hP : va_P (dC, dI) vwCl [(g0, .inr (4, [.ref q_1, .ref q_3, .ref q_5, .ref q_7, .null, .null, .null, .null, .null, .null, .null, .null, .null, .null, .null, .null, .null, .null, .int 0, .null, .int 0, .int 0, .int 0])), (q_1, .inl (k_2, 4, .inl (fun _ => 0))), (q_3, .inl (k_4, 4, .inl (fun _ => 0))), (q_5, .inl (k_6, 4, .inl (fun _ => 0))), (q_7, .inl (k_8, 4, .inl (fun _ => 0))), (q_9, .inl (k_10, 4, .inl (fun _ => 0)))] H := hP
  have hD : va_D A [(g0, .inr (4, [.ref q_1, .ref q_3, .ref q_5, .ref q_7, .null, .null, .null, .null, .null, .null, .null, .null, .null, .null, .null, .null, .null, .null, .int 0, .null, .int 0, .int 0, .int 0])), (q_1, .inl (k_2, 4, .inl (fun _ => 0))), (q_3, .inl (k_4, 4, .inl (fun _ => 0))), (q_5, .inl (k_6, 4, .inl (fun _ => 0))), (q_7, .inl (k_8, 4, .inl (fun _ => 0))), (q_9, .inl (k_10, 4, .inl (fun _ => 0)))] := hD
  have hK : va_K (dC, dI) vwCl [(k_2, .boolean), (k_4, .boolean), (k_6, .int), (k_8, .int), (k_10, .int)] s := hK
  refine W.widen (k := 5) (n := 20) (by omega) (by omega) ?_
  refine va_putF (D := (dC, dI)) (ci := 4) (v := .ref q_9) (ty := .array (.int)) (C := RX5) (T := TX5) (N := 23) hx hb hts (by decide +kernel) tyX5 tyX5_ok nmX5 hown hK hP hD hS 0 rfl rfl 4 (by decide) (hts (.fieldLink RX5 23 "SignFormsModel" "policy" "[I") (by decide +kernel)) (fun _ h9 => h9) rfl hin rfl (by decide +kernel) rfl rfl (Nat.le_of_ble_eq_true rfl) dX5_init_36 (fun H locs hP hD hS => ?_)
  have hP : va_P (dC, dI) vwCl [(g0, .inr (4, [.ref q_1, .ref q_3, .ref q_5, .ref q_7, .ref q_9, .null, .null, .null, .null, .null, .null, .null, .null, .null, .null, .null, .null, .null, .int 0, .null, .int 0, .int 0, .int 0])), (q_1, .inl (k_2, 4, .inl (fun _ => 0))), (q_3, .inl (k_4, 4, .inl (fun _ => 0))), (q_5, .inl (k_6, 4, .inl (fun _ => 0))), (q_7, .inl (k_8, 4, .inl (fun _ => 0))), (q_9, .inl (k_10, 4, .inl (fun _ => 0)))] H := hP
  have hD : va_D A [(g0, .inr (4, [.ref q_1, .ref q_3, .ref q_5, .ref q_7, .ref q_9, .null, .null, .null, .null, .null, .null, .null, .null, .null, .null, .null, .null, .null, .int 0, .null, .int 0, .int 0, .int 0])), (q_1, .inl (k_2, 4, .inl (fun _ => 0))), (q_3, .inl (k_4, 4, .inl (fun _ => 0))), (q_5, .inl (k_6, 4, .inl (fun _ => 0))), (q_7, .inl (k_8, 4, .inl (fun _ => 0))), (q_9, .inl (k_10, 4, .inl (fun _ => 0)))] := hD
  refine lv_aload_n hx hb dX5_init_39 rfl (lv_at hl 0 rfl) ?_
  refine lv_sipush (v := 8000) hx hb dX5_init_40 (by decide +kernel) ?_
  refine va_newa (atype := .int) (ty := .int) (a0 := (8000, .inl (fun _ => 0))) (N' := 8000) hx hb (hts (.arrayClass .int) (by decide +kernel)) rfl hK hP hD hS hA (fun cA => vp_cell_i cA 8000 (fun _ => 0)) (by decide +kernel) (by decide +kernel) (by decide +kernel) (Nat.le_of_ble_eq_true rfl) (Nat.le_of_ble_eq_true rfl) dX5_init_43 (fun q_11 k_12 H hK hP hD hS => ?_)
  have hP : va_P (dC, dI) vwCl [(g0, .inr (4, [.ref q_1, .ref q_3, .ref q_5, .ref q_7, .ref q_9, .null, .null, .null, .null, .null, .null, .null, .null, .null, .null, .null, .null, .null, .int 0, .null, .int 0, .int 0, .int 0])), (q_1, .inl (k_2, 4, .inl (fun _ => 0))), (q_3, .inl (k_4, 4, .inl (fun _ => 0))), (q_5, .inl (k_6, 4, .inl (fun _ => 0))), (q_7, .inl (k_8, 4, .inl (fun _ => 0))), (q_9, .inl (k_10, 4, .inl (fun _ => 0))), (q_11, .inl (k_12, 8000, .inl (fun _ => 0)))] H := hP
  have hD : va_D A [(g0, .inr (4, [.ref q_1, .ref q_3, .ref q_5, .ref q_7, .ref q_9, .null, .null, .null, .null, .null, .null, .null, .null, .null, .null, .null, .null, .null, .int 0, .null, .int 0, .int 0, .int 0])), (q_1, .inl (k_2, 4, .inl (fun _ => 0))), (q_3, .inl (k_4, 4, .inl (fun _ => 0))), (q_5, .inl (k_6, 4, .inl (fun _ => 0))), (q_7, .inl (k_8, 4, .inl (fun _ => 0))), (q_9, .inl (k_10, 4, .inl (fun _ => 0))), (q_11, .inl (k_12, 8000, .inl (fun _ => 0)))] := hD
  have hK : va_K (dC, dI) vwCl [(k_2, .boolean), (k_4, .boolean), (k_6, .int), (k_8, .int), (k_10, .int), (k_12, .int)] s := hK
  refine W.widen (k := 6) (n := 8020) (by omega) (by omega) ?_
  refine va_putF (D := (dC, dI)) (ci := 4) (v := .ref q_11) (ty := .array (.int)) (C := RX5) (T := TX5) (N := 23) hx hb hts (by decide +kernel) tyX5 tyX5_ok nmX5 hown hK hP hD hS 0 rfl rfl 5 (by decide) (hts (.fieldLink RX5 26 "SignFormsModel" "came" "[I") (by decide +kernel)) (fun _ h9 => h9) rfl hin rfl (by decide +kernel) rfl rfl (Nat.le_of_ble_eq_true rfl) dX5_init_45 (fun H locs hP hD hS => ?_)
  have hP : va_P (dC, dI) vwCl [(g0, .inr (4, [.ref q_1, .ref q_3, .ref q_5, .ref q_7, .ref q_9, .ref q_11, .null, .null, .null, .null, .null, .null, .null, .null, .null, .null, .null, .null, .int 0, .null, .int 0, .int 0, .int 0])), (q_1, .inl (k_2, 4, .inl (fun _ => 0))), (q_3, .inl (k_4, 4, .inl (fun _ => 0))), (q_5, .inl (k_6, 4, .inl (fun _ => 0))), (q_7, .inl (k_8, 4, .inl (fun _ => 0))), (q_9, .inl (k_10, 4, .inl (fun _ => 0))), (q_11, .inl (k_12, 8000, .inl (fun _ => 0)))] H := hP
  have hD : va_D A [(g0, .inr (4, [.ref q_1, .ref q_3, .ref q_5, .ref q_7, .ref q_9, .ref q_11, .null, .null, .null, .null, .null, .null, .null, .null, .null, .null, .null, .null, .int 0, .null, .int 0, .int 0, .int 0])), (q_1, .inl (k_2, 4, .inl (fun _ => 0))), (q_3, .inl (k_4, 4, .inl (fun _ => 0))), (q_5, .inl (k_6, 4, .inl (fun _ => 0))), (q_7, .inl (k_8, 4, .inl (fun _ => 0))), (q_9, .inl (k_10, 4, .inl (fun _ => 0))), (q_11, .inl (k_12, 8000, .inl (fun _ => 0)))] := hD
  refine lv_aload_n hx hb dX5_init_48 rfl (lv_at hl 0 rfl) ?_
  refine lv_iconst (v := 4) hx hb dX5_init_49 (by decide) ?_
  refine va_newa (atype := .int) (ty := .int) (a0 := (4, .inl (fun _ => 0))) (N' := 4) hx hb (hts (.arrayClass .int) (by decide +kernel)) rfl hK hP hD hS hA (fun cA => vp_cell_i cA 4 (fun _ => 0)) (by decide +kernel) (by decide +kernel) (by decide +kernel) (Nat.le_of_ble_eq_true rfl) (Nat.le_of_ble_eq_true rfl) dX5_init_50 (fun q_13 k_14 H hK hP hD hS => ?_)
  have hP : va_P (dC, dI) vwCl [(g0, .inr (4, [.ref q_1, .ref q_3, .ref q_5, .ref q_7, .ref q_9, .ref q_11, .null, .null, .null, .null, .null, .null, .null, .null, .null, .null, .null, .null, .int 0, .null, .int 0, .int 0, .int 0])), (q_1, .inl (k_2, 4, .inl (fun _ => 0))), (q_3, .inl (k_4, 4, .inl (fun _ => 0))), (q_5, .inl (k_6, 4, .inl (fun _ => 0))), (q_7, .inl (k_8, 4, .inl (fun _ => 0))), (q_9, .inl (k_10, 4, .inl (fun _ => 0))), (q_11, .inl (k_12, 8000, .inl (fun _ => 0))), (q_13, .inl (k_14, 4, .inl (fun _ => 0)))] H := hP
  have hD : va_D A [(g0, .inr (4, [.ref q_1, .ref q_3, .ref q_5, .ref q_7, .ref q_9, .ref q_11, .null, .null, .null, .null, .null, .null, .null, .null, .null, .null, .null, .null, .int 0, .null, .int 0, .int 0, .int 0])), (q_1, .inl (k_2, 4, .inl (fun _ => 0))), (q_3, .inl (k_4, 4, .inl (fun _ => 0))), (q_5, .inl (k_6, 4, .inl (fun _ => 0))), (q_7, .inl (k_8, 4, .inl (fun _ => 0))), (q_9, .inl (k_10, 4, .inl (fun _ => 0))), (q_11, .inl (k_12, 8000, .inl (fun _ => 0))), (q_13, .inl (k_14, 4, .inl (fun _ => 0)))] := hD
  have hK : va_K (dC, dI) vwCl [(k_2, .boolean), (k_4, .boolean), (k_6, .int), (k_8, .int), (k_10, .int), (k_12, .int), (k_14, .int)] s := hK
  refine W.widen (k := 7) (n := 8024) (by omega) (by omega) ?_
  refine va_putF (D := (dC, dI)) (ci := 4) (v := .ref q_13) (ty := .array (.int)) (C := RX5) (T := TX5) (N := 23) hx hb hts (by decide +kernel) tyX5 tyX5_ok nmX5 hown hK hP hD hS 0 rfl rfl 6 (by decide) (hts (.fieldLink RX5 29 "SignFormsModel" "many" "[I") (by decide +kernel)) (fun _ h9 => h9) rfl hin rfl (by decide +kernel) rfl rfl (Nat.le_of_ble_eq_true rfl) dX5_init_52 (fun H locs hP hD hS => ?_)
  have hP : va_P (dC, dI) vwCl [(g0, .inr (4, [.ref q_1, .ref q_3, .ref q_5, .ref q_7, .ref q_9, .ref q_11, .ref q_13, .null, .null, .null, .null, .null, .null, .null, .null, .null, .null, .null, .int 0, .null, .int 0, .int 0, .int 0])), (q_1, .inl (k_2, 4, .inl (fun _ => 0))), (q_3, .inl (k_4, 4, .inl (fun _ => 0))), (q_5, .inl (k_6, 4, .inl (fun _ => 0))), (q_7, .inl (k_8, 4, .inl (fun _ => 0))), (q_9, .inl (k_10, 4, .inl (fun _ => 0))), (q_11, .inl (k_12, 8000, .inl (fun _ => 0))), (q_13, .inl (k_14, 4, .inl (fun _ => 0)))] H := hP
  have hD : va_D A [(g0, .inr (4, [.ref q_1, .ref q_3, .ref q_5, .ref q_7, .ref q_9, .ref q_11, .ref q_13, .null, .null, .null, .null, .null, .null, .null, .null, .null, .null, .null, .int 0, .null, .int 0, .int 0, .int 0])), (q_1, .inl (k_2, 4, .inl (fun _ => 0))), (q_3, .inl (k_4, 4, .inl (fun _ => 0))), (q_5, .inl (k_6, 4, .inl (fun _ => 0))), (q_7, .inl (k_8, 4, .inl (fun _ => 0))), (q_9, .inl (k_10, 4, .inl (fun _ => 0))), (q_11, .inl (k_12, 8000, .inl (fun _ => 0))), (q_13, .inl (k_14, 4, .inl (fun _ => 0)))] := hD
  refine lv_aload_n hx hb dX5_init_55 rfl (lv_at hl 0 rfl) ?_
  refine lv_sipush (v := 8000) hx hb dX5_init_56 (by decide +kernel) ?_
  refine va_newa (atype := .int) (ty := .int) (a0 := (8000, .inl (fun _ => 0))) (N' := 8000) hx hb (hts (.arrayClass .int) (by decide +kernel)) rfl hK hP hD hS hA (fun cA => vp_cell_i cA 8000 (fun _ => 0)) (by decide +kernel) (by decide +kernel) (by decide +kernel) (Nat.le_of_ble_eq_true rfl) (Nat.le_of_ble_eq_true rfl) dX5_init_59 (fun q_15 k_16 H hK hP hD hS => ?_)
  have hP : va_P (dC, dI) vwCl [(g0, .inr (4, [.ref q_1, .ref q_3, .ref q_5, .ref q_7, .ref q_9, .ref q_11, .ref q_13, .null, .null, .null, .null, .null, .null, .null, .null, .null, .null, .null, .int 0, .null, .int 0, .int 0, .int 0])), (q_1, .inl (k_2, 4, .inl (fun _ => 0))), (q_3, .inl (k_4, 4, .inl (fun _ => 0))), (q_5, .inl (k_6, 4, .inl (fun _ => 0))), (q_7, .inl (k_8, 4, .inl (fun _ => 0))), (q_9, .inl (k_10, 4, .inl (fun _ => 0))), (q_11, .inl (k_12, 8000, .inl (fun _ => 0))), (q_13, .inl (k_14, 4, .inl (fun _ => 0))), (q_15, .inl (k_16, 8000, .inl (fun _ => 0)))] H := hP
  have hD : va_D A [(g0, .inr (4, [.ref q_1, .ref q_3, .ref q_5, .ref q_7, .ref q_9, .ref q_11, .ref q_13, .null, .null, .null, .null, .null, .null, .null, .null, .null, .null, .null, .int 0, .null, .int 0, .int 0, .int 0])), (q_1, .inl (k_2, 4, .inl (fun _ => 0))), (q_3, .inl (k_4, 4, .inl (fun _ => 0))), (q_5, .inl (k_6, 4, .inl (fun _ => 0))), (q_7, .inl (k_8, 4, .inl (fun _ => 0))), (q_9, .inl (k_10, 4, .inl (fun _ => 0))), (q_11, .inl (k_12, 8000, .inl (fun _ => 0))), (q_13, .inl (k_14, 4, .inl (fun _ => 0))), (q_15, .inl (k_16, 8000, .inl (fun _ => 0)))] := hD
  have hK : va_K (dC, dI) vwCl [(k_2, .boolean), (k_4, .boolean), (k_6, .int), (k_8, .int), (k_10, .int), (k_12, .int), (k_14, .int), (k_16, .int)] s := hK
  refine W.widen (k := 8) (n := 16024) (by omega) (by omega) ?_
  refine va_putF (D := (dC, dI)) (ci := 4) (v := .ref q_15) (ty := .array (.int)) (C := RX5) (T := TX5) (N := 23) hx hb hts (by decide +kernel) tyX5 tyX5_ok nmX5 hown hK hP hD hS 0 rfl rfl 7 (by decide) (hts (.fieldLink RX5 32 "SignFormsModel" "value" "[I") (by decide +kernel)) (fun _ h9 => h9) rfl hin rfl (by decide +kernel) rfl rfl (Nat.le_of_ble_eq_true rfl) dX5_init_61 (fun H locs hP hD hS => ?_)
  have hP : va_P (dC, dI) vwCl [(g0, .inr (4, [.ref q_1, .ref q_3, .ref q_5, .ref q_7, .ref q_9, .ref q_11, .ref q_13, .ref q_15, .null, .null, .null, .null, .null, .null, .null, .null, .null, .null, .int 0, .null, .int 0, .int 0, .int 0])), (q_1, .inl (k_2, 4, .inl (fun _ => 0))), (q_3, .inl (k_4, 4, .inl (fun _ => 0))), (q_5, .inl (k_6, 4, .inl (fun _ => 0))), (q_7, .inl (k_8, 4, .inl (fun _ => 0))), (q_9, .inl (k_10, 4, .inl (fun _ => 0))), (q_11, .inl (k_12, 8000, .inl (fun _ => 0))), (q_13, .inl (k_14, 4, .inl (fun _ => 0))), (q_15, .inl (k_16, 8000, .inl (fun _ => 0)))] H := hP
  have hD : va_D A [(g0, .inr (4, [.ref q_1, .ref q_3, .ref q_5, .ref q_7, .ref q_9, .ref q_11, .ref q_13, .ref q_15, .null, .null, .null, .null, .null, .null, .null, .null, .null, .null, .int 0, .null, .int 0, .int 0, .int 0])), (q_1, .inl (k_2, 4, .inl (fun _ => 0))), (q_3, .inl (k_4, 4, .inl (fun _ => 0))), (q_5, .inl (k_6, 4, .inl (fun _ => 0))), (q_7, .inl (k_8, 4, .inl (fun _ => 0))), (q_9, .inl (k_10, 4, .inl (fun _ => 0))), (q_11, .inl (k_12, 8000, .inl (fun _ => 0))), (q_13, .inl (k_14, 4, .inl (fun _ => 0))), (q_15, .inl (k_16, 8000, .inl (fun _ => 0)))] := hD
  refine lv_aload_n hx hb dX5_init_64 rfl (lv_at hl 0 rfl) ?_
  refine lv_sipush (v := 8000) hx hb dX5_init_65 (by decide +kernel) ?_
  refine va_newa (atype := .int) (ty := .int) (a0 := (8000, .inl (fun _ => 0))) (N' := 8000) hx hb (hts (.arrayClass .int) (by decide +kernel)) rfl hK hP hD hS hA (fun cA => vp_cell_i cA 8000 (fun _ => 0)) (by decide +kernel) (by decide +kernel) (by decide +kernel) (Nat.le_of_ble_eq_true rfl) (Nat.le_of_ble_eq_true rfl) dX5_init_68 (fun q_17 k_18 H hK hP hD hS => ?_)
  have hP : va_P (dC, dI) vwCl [(g0, .inr (4, [.ref q_1, .ref q_3, .ref q_5, .ref q_7, .ref q_9, .ref q_11, .ref q_13, .ref q_15, .null, .null, .null, .null, .null, .null, .null, .null, .null, .null, .int 0, .null, .int 0, .int 0, .int 0])), (q_1, .inl (k_2, 4, .inl (fun _ => 0))), (q_3, .inl (k_4, 4, .inl (fun _ => 0))), (q_5, .inl (k_6, 4, .inl (fun _ => 0))), (q_7, .inl (k_8, 4, .inl (fun _ => 0))), (q_9, .inl (k_10, 4, .inl (fun _ => 0))), (q_11, .inl (k_12, 8000, .inl (fun _ => 0))), (q_13, .inl (k_14, 4, .inl (fun _ => 0))), (q_15, .inl (k_16, 8000, .inl (fun _ => 0))), (q_17, .inl (k_18, 8000, .inl (fun _ => 0)))] H := hP
  have hD : va_D A [(g0, .inr (4, [.ref q_1, .ref q_3, .ref q_5, .ref q_7, .ref q_9, .ref q_11, .ref q_13, .ref q_15, .null, .null, .null, .null, .null, .null, .null, .null, .null, .null, .int 0, .null, .int 0, .int 0, .int 0])), (q_1, .inl (k_2, 4, .inl (fun _ => 0))), (q_3, .inl (k_4, 4, .inl (fun _ => 0))), (q_5, .inl (k_6, 4, .inl (fun _ => 0))), (q_7, .inl (k_8, 4, .inl (fun _ => 0))), (q_9, .inl (k_10, 4, .inl (fun _ => 0))), (q_11, .inl (k_12, 8000, .inl (fun _ => 0))), (q_13, .inl (k_14, 4, .inl (fun _ => 0))), (q_15, .inl (k_16, 8000, .inl (fun _ => 0))), (q_17, .inl (k_18, 8000, .inl (fun _ => 0)))] := hD
  have hK : va_K (dC, dI) vwCl [(k_2, .boolean), (k_4, .boolean), (k_6, .int), (k_8, .int), (k_10, .int), (k_12, .int), (k_14, .int), (k_16, .int), (k_18, .int)] s := hK
  refine W.widen (k := 9) (n := 24024) (by omega) (by omega) ?_
  refine va_putF (D := (dC, dI)) (ci := 4) (v := .ref q_17) (ty := .array (.int)) (C := RX5) (T := TX5) (N := 23) hx hb hts (by decide +kernel) tyX5 tyX5_ok nmX5 hown hK hP hD hS 0 rfl rfl 8 (by decide) (hts (.fieldLink RX5 35 "SignFormsModel" "place" "[I") (by decide +kernel)) (fun _ h9 => h9) rfl hin rfl (by decide +kernel) rfl rfl (Nat.le_of_ble_eq_true rfl) dX5_init_70 (fun H locs hP hD hS => ?_)
  have hP : va_P (dC, dI) vwCl [(g0, .inr (4, [.ref q_1, .ref q_3, .ref q_5, .ref q_7, .ref q_9, .ref q_11, .ref q_13, .ref q_15, .ref q_17, .null, .null, .null, .null, .null, .null, .null, .null, .null, .int 0, .null, .int 0, .int 0, .int 0])), (q_1, .inl (k_2, 4, .inl (fun _ => 0))), (q_3, .inl (k_4, 4, .inl (fun _ => 0))), (q_5, .inl (k_6, 4, .inl (fun _ => 0))), (q_7, .inl (k_8, 4, .inl (fun _ => 0))), (q_9, .inl (k_10, 4, .inl (fun _ => 0))), (q_11, .inl (k_12, 8000, .inl (fun _ => 0))), (q_13, .inl (k_14, 4, .inl (fun _ => 0))), (q_15, .inl (k_16, 8000, .inl (fun _ => 0))), (q_17, .inl (k_18, 8000, .inl (fun _ => 0)))] H := hP
  have hD : va_D A [(g0, .inr (4, [.ref q_1, .ref q_3, .ref q_5, .ref q_7, .ref q_9, .ref q_11, .ref q_13, .ref q_15, .ref q_17, .null, .null, .null, .null, .null, .null, .null, .null, .null, .int 0, .null, .int 0, .int 0, .int 0])), (q_1, .inl (k_2, 4, .inl (fun _ => 0))), (q_3, .inl (k_4, 4, .inl (fun _ => 0))), (q_5, .inl (k_6, 4, .inl (fun _ => 0))), (q_7, .inl (k_8, 4, .inl (fun _ => 0))), (q_9, .inl (k_10, 4, .inl (fun _ => 0))), (q_11, .inl (k_12, 8000, .inl (fun _ => 0))), (q_13, .inl (k_14, 4, .inl (fun _ => 0))), (q_15, .inl (k_16, 8000, .inl (fun _ => 0))), (q_17, .inl (k_18, 8000, .inl (fun _ => 0)))] := hD
  refine lv_aload_n hx hb dX5_init_73 rfl (lv_at hl 0 rfl) ?_
  refine lv_sipush (v := 8000) hx hb dX5_init_74 (by decide +kernel) ?_
  refine va_newa (atype := .int) (ty := .int) (a0 := (8000, .inl (fun _ => 0))) (N' := 8000) hx hb (hts (.arrayClass .int) (by decide +kernel)) rfl hK hP hD hS hA (fun cA => vp_cell_i cA 8000 (fun _ => 0)) (by decide +kernel) (by decide +kernel) (by decide +kernel) (Nat.le_of_ble_eq_true rfl) (Nat.le_of_ble_eq_true rfl) dX5_init_77 (fun q_19 k_20 H hK hP hD hS => ?_)
  have hP : va_P (dC, dI) vwCl [(g0, .inr (4, [.ref q_1, .ref q_3, .ref q_5, .ref q_7, .ref q_9, .ref q_11, .ref q_13, .ref q_15, .ref q_17, .null, .null, .null, .null, .null, .null, .null, .null, .null, .int 0, .null, .int 0, .int 0, .int 0])), (q_1, .inl (k_2, 4, .inl (fun _ => 0))), (q_3, .inl (k_4, 4, .inl (fun _ => 0))), (q_5, .inl (k_6, 4, .inl (fun _ => 0))), (q_7, .inl (k_8, 4, .inl (fun _ => 0))), (q_9, .inl (k_10, 4, .inl (fun _ => 0))), (q_11, .inl (k_12, 8000, .inl (fun _ => 0))), (q_13, .inl (k_14, 4, .inl (fun _ => 0))), (q_15, .inl (k_16, 8000, .inl (fun _ => 0))), (q_17, .inl (k_18, 8000, .inl (fun _ => 0))), (q_19, .inl (k_20, 8000, .inl (fun _ => 0)))] H := hP
  have hD : va_D A [(g0, .inr (4, [.ref q_1, .ref q_3, .ref q_5, .ref q_7, .ref q_9, .ref q_11, .ref q_13, .ref q_15, .ref q_17, .null, .null, .null, .null, .null, .null, .null, .null, .null, .int 0, .null, .int 0, .int 0, .int 0])), (q_1, .inl (k_2, 4, .inl (fun _ => 0))), (q_3, .inl (k_4, 4, .inl (fun _ => 0))), (q_5, .inl (k_6, 4, .inl (fun _ => 0))), (q_7, .inl (k_8, 4, .inl (fun _ => 0))), (q_9, .inl (k_10, 4, .inl (fun _ => 0))), (q_11, .inl (k_12, 8000, .inl (fun _ => 0))), (q_13, .inl (k_14, 4, .inl (fun _ => 0))), (q_15, .inl (k_16, 8000, .inl (fun _ => 0))), (q_17, .inl (k_18, 8000, .inl (fun _ => 0))), (q_19, .inl (k_20, 8000, .inl (fun _ => 0)))] := hD
  have hK : va_K (dC, dI) vwCl [(k_2, .boolean), (k_4, .boolean), (k_6, .int), (k_8, .int), (k_10, .int), (k_12, .int), (k_14, .int), (k_16, .int), (k_18, .int), (k_20, .int)] s := hK
  refine W.widen (k := 10) (n := 32024) (by omega) (by omega) ?_
  refine va_putF (D := (dC, dI)) (ci := 4) (v := .ref q_19) (ty := .array (.int)) (C := RX5) (T := TX5) (N := 23) hx hb hts (by decide +kernel) tyX5 tyX5_ok nmX5 hown hK hP hD hS 0 rfl rfl 9 (by decide) (hts (.fieldLink RX5 38 "SignFormsModel" "length" "[I") (by decide +kernel)) (fun _ h9 => h9) rfl hin rfl (by decide +kernel) rfl rfl (Nat.le_of_ble_eq_true rfl) dX5_init_79 (fun H locs hP hD hS => ?_)
  have hP : va_P (dC, dI) vwCl [(g0, .inr (4, [.ref q_1, .ref q_3, .ref q_5, .ref q_7, .ref q_9, .ref q_11, .ref q_13, .ref q_15, .ref q_17, .ref q_19, .null, .null, .null, .null, .null, .null, .null, .null, .int 0, .null, .int 0, .int 0, .int 0])), (q_1, .inl (k_2, 4, .inl (fun _ => 0))), (q_3, .inl (k_4, 4, .inl (fun _ => 0))), (q_5, .inl (k_6, 4, .inl (fun _ => 0))), (q_7, .inl (k_8, 4, .inl (fun _ => 0))), (q_9, .inl (k_10, 4, .inl (fun _ => 0))), (q_11, .inl (k_12, 8000, .inl (fun _ => 0))), (q_13, .inl (k_14, 4, .inl (fun _ => 0))), (q_15, .inl (k_16, 8000, .inl (fun _ => 0))), (q_17, .inl (k_18, 8000, .inl (fun _ => 0))), (q_19, .inl (k_20, 8000, .inl (fun _ => 0)))] H := hP
  have hD : va_D A [(g0, .inr (4, [.ref q_1, .ref q_3, .ref q_5, .ref q_7, .ref q_9, .ref q_11, .ref q_13, .ref q_15, .ref q_17, .ref q_19, .null, .null, .null, .null, .null, .null, .null, .null, .int 0, .null, .int 0, .int 0, .int 0])), (q_1, .inl (k_2, 4, .inl (fun _ => 0))), (q_3, .inl (k_4, 4, .inl (fun _ => 0))), (q_5, .inl (k_6, 4, .inl (fun _ => 0))), (q_7, .inl (k_8, 4, .inl (fun _ => 0))), (q_9, .inl (k_10, 4, .inl (fun _ => 0))), (q_11, .inl (k_12, 8000, .inl (fun _ => 0))), (q_13, .inl (k_14, 4, .inl (fun _ => 0))), (q_15, .inl (k_16, 8000, .inl (fun _ => 0))), (q_17, .inl (k_18, 8000, .inl (fun _ => 0))), (q_19, .inl (k_20, 8000, .inl (fun _ => 0)))] := hD
  refine lv_aload_n hx hb dX5_init_82 rfl (lv_at hl 0 rfl) ?_
  refine lv_sipush (v := 8000) hx hb dX5_init_83 (by decide +kernel) ?_
  refine va_newa (atype := .boolean) (ty := .boolean) (a0 := (8000, .inl (fun _ => 0))) (N' := 8000) hx hb (hts (.arrayClass .boolean) (by decide +kernel)) rfl hK hP hD hS hA (fun cA => vp_cell_i cA 8000 (fun _ => 0)) (by decide +kernel) (by decide +kernel) (by decide +kernel) (Nat.le_of_ble_eq_true rfl) (Nat.le_of_ble_eq_true rfl) dX5_init_86 (fun q_21 k_22 H hK hP hD hS => ?_)
  have hP : va_P (dC, dI) vwCl [(g0, .inr (4, [.ref q_1, .ref q_3, .ref q_5, .ref q_7, .ref q_9, .ref q_11, .ref q_13, .ref q_15, .ref q_17, .ref q_19, .null, .null, .null, .null, .null, .null, .null, .null, .int 0, .null, .int 0, .int 0, .int 0])), (q_1, .inl (k_2, 4, .inl (fun _ => 0))), (q_3, .inl (k_4, 4, .inl (fun _ => 0))), (q_5, .inl (k_6, 4, .inl (fun _ => 0))), (q_7, .inl (k_8, 4, .inl (fun _ => 0))), (q_9, .inl (k_10, 4, .inl (fun _ => 0))), (q_11, .inl (k_12, 8000, .inl (fun _ => 0))), (q_13, .inl (k_14, 4, .inl (fun _ => 0))), (q_15, .inl (k_16, 8000, .inl (fun _ => 0))), (q_17, .inl (k_18, 8000, .inl (fun _ => 0))), (q_19, .inl (k_20, 8000, .inl (fun _ => 0))), (q_21, .inl (k_22, 8000, .inl (fun _ => 0)))] H := hP
  have hD : va_D A [(g0, .inr (4, [.ref q_1, .ref q_3, .ref q_5, .ref q_7, .ref q_9, .ref q_11, .ref q_13, .ref q_15, .ref q_17, .ref q_19, .null, .null, .null, .null, .null, .null, .null, .null, .int 0, .null, .int 0, .int 0, .int 0])), (q_1, .inl (k_2, 4, .inl (fun _ => 0))), (q_3, .inl (k_4, 4, .inl (fun _ => 0))), (q_5, .inl (k_6, 4, .inl (fun _ => 0))), (q_7, .inl (k_8, 4, .inl (fun _ => 0))), (q_9, .inl (k_10, 4, .inl (fun _ => 0))), (q_11, .inl (k_12, 8000, .inl (fun _ => 0))), (q_13, .inl (k_14, 4, .inl (fun _ => 0))), (q_15, .inl (k_16, 8000, .inl (fun _ => 0))), (q_17, .inl (k_18, 8000, .inl (fun _ => 0))), (q_19, .inl (k_20, 8000, .inl (fun _ => 0))), (q_21, .inl (k_22, 8000, .inl (fun _ => 0)))] := hD
  have hK : va_K (dC, dI) vwCl [(k_2, .boolean), (k_4, .boolean), (k_6, .int), (k_8, .int), (k_10, .int), (k_12, .int), (k_14, .int), (k_16, .int), (k_18, .int), (k_20, .int), (k_22, .boolean)] s := hK
  refine W.widen (k := 11) (n := 40024) (by omega) (by omega) ?_
  refine va_putF (D := (dC, dI)) (ci := 4) (v := .ref q_21) (ty := .array (.boolean)) (C := RX5) (T := TX5) (N := 23) hx hb hts (by decide +kernel) tyX5 tyX5_ok nmX5 hown hK hP hD hS 0 rfl rfl 10 (by decide) (hts (.fieldLink RX5 41 "SignFormsModel" "isMade" "[Z") (by decide +kernel)) (fun _ h9 => h9) rfl hin rfl (by decide +kernel) rfl rfl (Nat.le_of_ble_eq_true rfl) dX5_init_88 (fun H locs hP hD hS => ?_)
  have hP : va_P (dC, dI) vwCl [(g0, .inr (4, [.ref q_1, .ref q_3, .ref q_5, .ref q_7, .ref q_9, .ref q_11, .ref q_13, .ref q_15, .ref q_17, .ref q_19, .ref q_21, .null, .null, .null, .null, .null, .null, .null, .int 0, .null, .int 0, .int 0, .int 0])), (q_1, .inl (k_2, 4, .inl (fun _ => 0))), (q_3, .inl (k_4, 4, .inl (fun _ => 0))), (q_5, .inl (k_6, 4, .inl (fun _ => 0))), (q_7, .inl (k_8, 4, .inl (fun _ => 0))), (q_9, .inl (k_10, 4, .inl (fun _ => 0))), (q_11, .inl (k_12, 8000, .inl (fun _ => 0))), (q_13, .inl (k_14, 4, .inl (fun _ => 0))), (q_15, .inl (k_16, 8000, .inl (fun _ => 0))), (q_17, .inl (k_18, 8000, .inl (fun _ => 0))), (q_19, .inl (k_20, 8000, .inl (fun _ => 0))), (q_21, .inl (k_22, 8000, .inl (fun _ => 0)))] H := hP
  have hD : va_D A [(g0, .inr (4, [.ref q_1, .ref q_3, .ref q_5, .ref q_7, .ref q_9, .ref q_11, .ref q_13, .ref q_15, .ref q_17, .ref q_19, .ref q_21, .null, .null, .null, .null, .null, .null, .null, .int 0, .null, .int 0, .int 0, .int 0])), (q_1, .inl (k_2, 4, .inl (fun _ => 0))), (q_3, .inl (k_4, 4, .inl (fun _ => 0))), (q_5, .inl (k_6, 4, .inl (fun _ => 0))), (q_7, .inl (k_8, 4, .inl (fun _ => 0))), (q_9, .inl (k_10, 4, .inl (fun _ => 0))), (q_11, .inl (k_12, 8000, .inl (fun _ => 0))), (q_13, .inl (k_14, 4, .inl (fun _ => 0))), (q_15, .inl (k_16, 8000, .inl (fun _ => 0))), (q_17, .inl (k_18, 8000, .inl (fun _ => 0))), (q_19, .inl (k_20, 8000, .inl (fun _ => 0))), (q_21, .inl (k_22, 8000, .inl (fun _ => 0)))] := hD
  refine lv_aload_n hx hb dX5_init_91 rfl (lv_at hl 0 rfl) ?_
  refine lv_iconst (v := 4) hx hb dX5_init_92 (by decide) ?_
  refine va_newa (atype := .int) (ty := .int) (a0 := (4, .inl (fun _ => 0))) (N' := 4) hx hb (hts (.arrayClass .int) (by decide +kernel)) rfl hK hP hD hS hA (fun cA => vp_cell_i cA 4 (fun _ => 0)) (by decide +kernel) (by decide +kernel) (by decide +kernel) (Nat.le_of_ble_eq_true rfl) (Nat.le_of_ble_eq_true rfl) dX5_init_93 (fun q_23 k_24 H hK hP hD hS => ?_)
  have hP : va_P (dC, dI) vwCl [(g0, .inr (4, [.ref q_1, .ref q_3, .ref q_5, .ref q_7, .ref q_9, .ref q_11, .ref q_13, .ref q_15, .ref q_17, .ref q_19, .ref q_21, .null, .null, .null, .null, .null, .null, .null, .int 0, .null, .int 0, .int 0, .int 0])), (q_1, .inl (k_2, 4, .inl (fun _ => 0))), (q_3, .inl (k_4, 4, .inl (fun _ => 0))), (q_5, .inl (k_6, 4, .inl (fun _ => 0))), (q_7, .inl (k_8, 4, .inl (fun _ => 0))), (q_9, .inl (k_10, 4, .inl (fun _ => 0))), (q_11, .inl (k_12, 8000, .inl (fun _ => 0))), (q_13, .inl (k_14, 4, .inl (fun _ => 0))), (q_15, .inl (k_16, 8000, .inl (fun _ => 0))), (q_17, .inl (k_18, 8000, .inl (fun _ => 0))), (q_19, .inl (k_20, 8000, .inl (fun _ => 0))), (q_21, .inl (k_22, 8000, .inl (fun _ => 0))), (q_23, .inl (k_24, 4, .inl (fun _ => 0)))] H := hP
  have hD : va_D A [(g0, .inr (4, [.ref q_1, .ref q_3, .ref q_5, .ref q_7, .ref q_9, .ref q_11, .ref q_13, .ref q_15, .ref q_17, .ref q_19, .ref q_21, .null, .null, .null, .null, .null, .null, .null, .int 0, .null, .int 0, .int 0, .int 0])), (q_1, .inl (k_2, 4, .inl (fun _ => 0))), (q_3, .inl (k_4, 4, .inl (fun _ => 0))), (q_5, .inl (k_6, 4, .inl (fun _ => 0))), (q_7, .inl (k_8, 4, .inl (fun _ => 0))), (q_9, .inl (k_10, 4, .inl (fun _ => 0))), (q_11, .inl (k_12, 8000, .inl (fun _ => 0))), (q_13, .inl (k_14, 4, .inl (fun _ => 0))), (q_15, .inl (k_16, 8000, .inl (fun _ => 0))), (q_17, .inl (k_18, 8000, .inl (fun _ => 0))), (q_19, .inl (k_20, 8000, .inl (fun _ => 0))), (q_21, .inl (k_22, 8000, .inl (fun _ => 0))), (q_23, .inl (k_24, 4, .inl (fun _ => 0)))] := hD
  have hK : va_K (dC, dI) vwCl [(k_2, .boolean), (k_4, .boolean), (k_6, .int), (k_8, .int), (k_10, .int), (k_12, .int), (k_14, .int), (k_16, .int), (k_18, .int), (k_20, .int), (k_22, .boolean), (k_24, .int)] s := hK
  refine W.widen (k := 12) (n := 40028) (by omega) (by omega) ?_
  refine va_putF (D := (dC, dI)) (ci := 4) (v := .ref q_23) (ty := .array (.int)) (C := RX5) (T := TX5) (N := 23) hx hb hts (by decide +kernel) tyX5 tyX5_ok nmX5 hown hK hP hD hS 0 rfl rfl 11 (by decide) (hts (.fieldLink RX5 44 "SignFormsModel" "signs" "[I") (by decide +kernel)) (fun _ h9 => h9) rfl hin rfl (by decide +kernel) rfl rfl (Nat.le_of_ble_eq_true rfl) dX5_init_95 (fun H locs hP hD hS => ?_)
  have hP : va_P (dC, dI) vwCl [(g0, .inr (4, [.ref q_1, .ref q_3, .ref q_5, .ref q_7, .ref q_9, .ref q_11, .ref q_13, .ref q_15, .ref q_17, .ref q_19, .ref q_21, .ref q_23, .null, .null, .null, .null, .null, .null, .int 0, .null, .int 0, .int 0, .int 0])), (q_1, .inl (k_2, 4, .inl (fun _ => 0))), (q_3, .inl (k_4, 4, .inl (fun _ => 0))), (q_5, .inl (k_6, 4, .inl (fun _ => 0))), (q_7, .inl (k_8, 4, .inl (fun _ => 0))), (q_9, .inl (k_10, 4, .inl (fun _ => 0))), (q_11, .inl (k_12, 8000, .inl (fun _ => 0))), (q_13, .inl (k_14, 4, .inl (fun _ => 0))), (q_15, .inl (k_16, 8000, .inl (fun _ => 0))), (q_17, .inl (k_18, 8000, .inl (fun _ => 0))), (q_19, .inl (k_20, 8000, .inl (fun _ => 0))), (q_21, .inl (k_22, 8000, .inl (fun _ => 0))), (q_23, .inl (k_24, 4, .inl (fun _ => 0)))] H := hP
  have hD : va_D A [(g0, .inr (4, [.ref q_1, .ref q_3, .ref q_5, .ref q_7, .ref q_9, .ref q_11, .ref q_13, .ref q_15, .ref q_17, .ref q_19, .ref q_21, .ref q_23, .null, .null, .null, .null, .null, .null, .int 0, .null, .int 0, .int 0, .int 0])), (q_1, .inl (k_2, 4, .inl (fun _ => 0))), (q_3, .inl (k_4, 4, .inl (fun _ => 0))), (q_5, .inl (k_6, 4, .inl (fun _ => 0))), (q_7, .inl (k_8, 4, .inl (fun _ => 0))), (q_9, .inl (k_10, 4, .inl (fun _ => 0))), (q_11, .inl (k_12, 8000, .inl (fun _ => 0))), (q_13, .inl (k_14, 4, .inl (fun _ => 0))), (q_15, .inl (k_16, 8000, .inl (fun _ => 0))), (q_17, .inl (k_18, 8000, .inl (fun _ => 0))), (q_19, .inl (k_20, 8000, .inl (fun _ => 0))), (q_21, .inl (k_22, 8000, .inl (fun _ => 0))), (q_23, .inl (k_24, 4, .inl (fun _ => 0)))] := hD
  refine lv_aload_n hx hb dX5_init_98 rfl (lv_at hl 0 rfl) ?_
  refine lv_iconst (v := 4) hx hb dX5_init_99 (by decide) ?_
  refine va_newa (atype := .int) (ty := .int) (a0 := (4, .inl (fun _ => 0))) (N' := 4) hx hb (hts (.arrayClass .int) (by decide +kernel)) rfl hK hP hD hS hA (fun cA => vp_cell_i cA 4 (fun _ => 0)) (by decide +kernel) (by decide +kernel) (by decide +kernel) (Nat.le_of_ble_eq_true rfl) (Nat.le_of_ble_eq_true rfl) dX5_init_100 (fun q_25 k_26 H hK hP hD hS => ?_)
  have hP : va_P (dC, dI) vwCl [(g0, .inr (4, [.ref q_1, .ref q_3, .ref q_5, .ref q_7, .ref q_9, .ref q_11, .ref q_13, .ref q_15, .ref q_17, .ref q_19, .ref q_21, .ref q_23, .null, .null, .null, .null, .null, .null, .int 0, .null, .int 0, .int 0, .int 0])), (q_1, .inl (k_2, 4, .inl (fun _ => 0))), (q_3, .inl (k_4, 4, .inl (fun _ => 0))), (q_5, .inl (k_6, 4, .inl (fun _ => 0))), (q_7, .inl (k_8, 4, .inl (fun _ => 0))), (q_9, .inl (k_10, 4, .inl (fun _ => 0))), (q_11, .inl (k_12, 8000, .inl (fun _ => 0))), (q_13, .inl (k_14, 4, .inl (fun _ => 0))), (q_15, .inl (k_16, 8000, .inl (fun _ => 0))), (q_17, .inl (k_18, 8000, .inl (fun _ => 0))), (q_19, .inl (k_20, 8000, .inl (fun _ => 0))), (q_21, .inl (k_22, 8000, .inl (fun _ => 0))), (q_23, .inl (k_24, 4, .inl (fun _ => 0))), (q_25, .inl (k_26, 4, .inl (fun _ => 0)))] H := hP
  have hD : va_D A [(g0, .inr (4, [.ref q_1, .ref q_3, .ref q_5, .ref q_7, .ref q_9, .ref q_11, .ref q_13, .ref q_15, .ref q_17, .ref q_19, .ref q_21, .ref q_23, .null, .null, .null, .null, .null, .null, .int 0, .null, .int 0, .int 0, .int 0])), (q_1, .inl (k_2, 4, .inl (fun _ => 0))), (q_3, .inl (k_4, 4, .inl (fun _ => 0))), (q_5, .inl (k_6, 4, .inl (fun _ => 0))), (q_7, .inl (k_8, 4, .inl (fun _ => 0))), (q_9, .inl (k_10, 4, .inl (fun _ => 0))), (q_11, .inl (k_12, 8000, .inl (fun _ => 0))), (q_13, .inl (k_14, 4, .inl (fun _ => 0))), (q_15, .inl (k_16, 8000, .inl (fun _ => 0))), (q_17, .inl (k_18, 8000, .inl (fun _ => 0))), (q_19, .inl (k_20, 8000, .inl (fun _ => 0))), (q_21, .inl (k_22, 8000, .inl (fun _ => 0))), (q_23, .inl (k_24, 4, .inl (fun _ => 0))), (q_25, .inl (k_26, 4, .inl (fun _ => 0)))] := hD
  have hK : va_K (dC, dI) vwCl [(k_2, .boolean), (k_4, .boolean), (k_6, .int), (k_8, .int), (k_10, .int), (k_12, .int), (k_14, .int), (k_16, .int), (k_18, .int), (k_20, .int), (k_22, .boolean), (k_24, .int), (k_26, .int)] s := hK
  refine W.widen (k := 13) (n := 40032) (by omega) (by omega) ?_
  refine va_putF (D := (dC, dI)) (ci := 4) (v := .ref q_25) (ty := .array (.int)) (C := RX5) (T := TX5) (N := 23) hx hb hts (by decide +kernel) tyX5 tyX5_ok nmX5 hown hK hP hD hS 0 rfl rfl 12 (by decide) (hts (.fieldLink RX5 47 "SignFormsModel" "subparts" "[I") (by decide +kernel)) (fun _ h9 => h9) rfl hin rfl (by decide +kernel) rfl rfl (Nat.le_of_ble_eq_true rfl) dX5_init_102 (fun H locs hP hD hS => ?_)
  have hP : va_P (dC, dI) vwCl [(g0, .inr (4, [.ref q_1, .ref q_3, .ref q_5, .ref q_7, .ref q_9, .ref q_11, .ref q_13, .ref q_15, .ref q_17, .ref q_19, .ref q_21, .ref q_23, .ref q_25, .null, .null, .null, .null, .null, .int 0, .null, .int 0, .int 0, .int 0])), (q_1, .inl (k_2, 4, .inl (fun _ => 0))), (q_3, .inl (k_4, 4, .inl (fun _ => 0))), (q_5, .inl (k_6, 4, .inl (fun _ => 0))), (q_7, .inl (k_8, 4, .inl (fun _ => 0))), (q_9, .inl (k_10, 4, .inl (fun _ => 0))), (q_11, .inl (k_12, 8000, .inl (fun _ => 0))), (q_13, .inl (k_14, 4, .inl (fun _ => 0))), (q_15, .inl (k_16, 8000, .inl (fun _ => 0))), (q_17, .inl (k_18, 8000, .inl (fun _ => 0))), (q_19, .inl (k_20, 8000, .inl (fun _ => 0))), (q_21, .inl (k_22, 8000, .inl (fun _ => 0))), (q_23, .inl (k_24, 4, .inl (fun _ => 0))), (q_25, .inl (k_26, 4, .inl (fun _ => 0)))] H := hP
  have hD : va_D A [(g0, .inr (4, [.ref q_1, .ref q_3, .ref q_5, .ref q_7, .ref q_9, .ref q_11, .ref q_13, .ref q_15, .ref q_17, .ref q_19, .ref q_21, .ref q_23, .ref q_25, .null, .null, .null, .null, .null, .int 0, .null, .int 0, .int 0, .int 0])), (q_1, .inl (k_2, 4, .inl (fun _ => 0))), (q_3, .inl (k_4, 4, .inl (fun _ => 0))), (q_5, .inl (k_6, 4, .inl (fun _ => 0))), (q_7, .inl (k_8, 4, .inl (fun _ => 0))), (q_9, .inl (k_10, 4, .inl (fun _ => 0))), (q_11, .inl (k_12, 8000, .inl (fun _ => 0))), (q_13, .inl (k_14, 4, .inl (fun _ => 0))), (q_15, .inl (k_16, 8000, .inl (fun _ => 0))), (q_17, .inl (k_18, 8000, .inl (fun _ => 0))), (q_19, .inl (k_20, 8000, .inl (fun _ => 0))), (q_21, .inl (k_22, 8000, .inl (fun _ => 0))), (q_23, .inl (k_24, 4, .inl (fun _ => 0))), (q_25, .inl (k_26, 4, .inl (fun _ => 0)))] := hD
  refine lv_aload_n hx hb dX5_init_105 rfl (lv_at hl 0 rfl) ?_
  refine lv_iconst (v := 4) hx hb dX5_init_106 (by decide) ?_
  refine va_newa (atype := .int) (ty := .int) (a0 := (4, .inl (fun _ => 0))) (N' := 4) hx hb (hts (.arrayClass .int) (by decide +kernel)) rfl hK hP hD hS hA (fun cA => vp_cell_i cA 4 (fun _ => 0)) (by decide +kernel) (by decide +kernel) (by decide +kernel) (Nat.le_of_ble_eq_true rfl) (Nat.le_of_ble_eq_true rfl) dX5_init_107 (fun q_27 k_28 H hK hP hD hS => ?_)
  have hP : va_P (dC, dI) vwCl [(g0, .inr (4, [.ref q_1, .ref q_3, .ref q_5, .ref q_7, .ref q_9, .ref q_11, .ref q_13, .ref q_15, .ref q_17, .ref q_19, .ref q_21, .ref q_23, .ref q_25, .null, .null, .null, .null, .null, .int 0, .null, .int 0, .int 0, .int 0])), (q_1, .inl (k_2, 4, .inl (fun _ => 0))), (q_3, .inl (k_4, 4, .inl (fun _ => 0))), (q_5, .inl (k_6, 4, .inl (fun _ => 0))), (q_7, .inl (k_8, 4, .inl (fun _ => 0))), (q_9, .inl (k_10, 4, .inl (fun _ => 0))), (q_11, .inl (k_12, 8000, .inl (fun _ => 0))), (q_13, .inl (k_14, 4, .inl (fun _ => 0))), (q_15, .inl (k_16, 8000, .inl (fun _ => 0))), (q_17, .inl (k_18, 8000, .inl (fun _ => 0))), (q_19, .inl (k_20, 8000, .inl (fun _ => 0))), (q_21, .inl (k_22, 8000, .inl (fun _ => 0))), (q_23, .inl (k_24, 4, .inl (fun _ => 0))), (q_25, .inl (k_26, 4, .inl (fun _ => 0))), (q_27, .inl (k_28, 4, .inl (fun _ => 0)))] H := hP
  have hD : va_D A [(g0, .inr (4, [.ref q_1, .ref q_3, .ref q_5, .ref q_7, .ref q_9, .ref q_11, .ref q_13, .ref q_15, .ref q_17, .ref q_19, .ref q_21, .ref q_23, .ref q_25, .null, .null, .null, .null, .null, .int 0, .null, .int 0, .int 0, .int 0])), (q_1, .inl (k_2, 4, .inl (fun _ => 0))), (q_3, .inl (k_4, 4, .inl (fun _ => 0))), (q_5, .inl (k_6, 4, .inl (fun _ => 0))), (q_7, .inl (k_8, 4, .inl (fun _ => 0))), (q_9, .inl (k_10, 4, .inl (fun _ => 0))), (q_11, .inl (k_12, 8000, .inl (fun _ => 0))), (q_13, .inl (k_14, 4, .inl (fun _ => 0))), (q_15, .inl (k_16, 8000, .inl (fun _ => 0))), (q_17, .inl (k_18, 8000, .inl (fun _ => 0))), (q_19, .inl (k_20, 8000, .inl (fun _ => 0))), (q_21, .inl (k_22, 8000, .inl (fun _ => 0))), (q_23, .inl (k_24, 4, .inl (fun _ => 0))), (q_25, .inl (k_26, 4, .inl (fun _ => 0))), (q_27, .inl (k_28, 4, .inl (fun _ => 0)))] := hD
  have hK : va_K (dC, dI) vwCl [(k_2, .boolean), (k_4, .boolean), (k_6, .int), (k_8, .int), (k_10, .int), (k_12, .int), (k_14, .int), (k_16, .int), (k_18, .int), (k_20, .int), (k_22, .boolean), (k_24, .int), (k_26, .int), (k_28, .int)] s := hK
  refine W.widen (k := 14) (n := 40036) (by omega) (by omega) ?_
  refine va_putF (D := (dC, dI)) (ci := 4) (v := .ref q_27) (ty := .array (.int)) (C := RX5) (T := TX5) (N := 23) hx hb hts (by decide +kernel) tyX5 tyX5_ok nmX5 hown hK hP hD hS 0 rfl rfl 13 (by decide) (hts (.fieldLink RX5 50 "SignFormsModel" "open" "[I") (by decide +kernel)) (fun _ h9 => h9) rfl hin rfl (by decide +kernel) rfl rfl (Nat.le_of_ble_eq_true rfl) dX5_init_109 (fun H locs hP hD hS => ?_)
  have hP : va_P (dC, dI) vwCl [(g0, .inr (4, [.ref q_1, .ref q_3, .ref q_5, .ref q_7, .ref q_9, .ref q_11, .ref q_13, .ref q_15, .ref q_17, .ref q_19, .ref q_21, .ref q_23, .ref q_25, .ref q_27, .null, .null, .null, .null, .int 0, .null, .int 0, .int 0, .int 0])), (q_1, .inl (k_2, 4, .inl (fun _ => 0))), (q_3, .inl (k_4, 4, .inl (fun _ => 0))), (q_5, .inl (k_6, 4, .inl (fun _ => 0))), (q_7, .inl (k_8, 4, .inl (fun _ => 0))), (q_9, .inl (k_10, 4, .inl (fun _ => 0))), (q_11, .inl (k_12, 8000, .inl (fun _ => 0))), (q_13, .inl (k_14, 4, .inl (fun _ => 0))), (q_15, .inl (k_16, 8000, .inl (fun _ => 0))), (q_17, .inl (k_18, 8000, .inl (fun _ => 0))), (q_19, .inl (k_20, 8000, .inl (fun _ => 0))), (q_21, .inl (k_22, 8000, .inl (fun _ => 0))), (q_23, .inl (k_24, 4, .inl (fun _ => 0))), (q_25, .inl (k_26, 4, .inl (fun _ => 0))), (q_27, .inl (k_28, 4, .inl (fun _ => 0)))] H := hP
  have hD : va_D A [(g0, .inr (4, [.ref q_1, .ref q_3, .ref q_5, .ref q_7, .ref q_9, .ref q_11, .ref q_13, .ref q_15, .ref q_17, .ref q_19, .ref q_21, .ref q_23, .ref q_25, .ref q_27, .null, .null, .null, .null, .int 0, .null, .int 0, .int 0, .int 0])), (q_1, .inl (k_2, 4, .inl (fun _ => 0))), (q_3, .inl (k_4, 4, .inl (fun _ => 0))), (q_5, .inl (k_6, 4, .inl (fun _ => 0))), (q_7, .inl (k_8, 4, .inl (fun _ => 0))), (q_9, .inl (k_10, 4, .inl (fun _ => 0))), (q_11, .inl (k_12, 8000, .inl (fun _ => 0))), (q_13, .inl (k_14, 4, .inl (fun _ => 0))), (q_15, .inl (k_16, 8000, .inl (fun _ => 0))), (q_17, .inl (k_18, 8000, .inl (fun _ => 0))), (q_19, .inl (k_20, 8000, .inl (fun _ => 0))), (q_21, .inl (k_22, 8000, .inl (fun _ => 0))), (q_23, .inl (k_24, 4, .inl (fun _ => 0))), (q_25, .inl (k_26, 4, .inl (fun _ => 0))), (q_27, .inl (k_28, 4, .inl (fun _ => 0)))] := hD
  refine lv_aload_n hx hb dX5_init_112 rfl (lv_at hl 0 rfl) ?_
  refine lv_iconst (v := 4) hx hb dX5_init_113 (by decide) ?_
  refine va_newa (atype := .int) (ty := .int) (a0 := (4, .inl (fun _ => 0))) (N' := 4) hx hb (hts (.arrayClass .int) (by decide +kernel)) rfl hK hP hD hS hA (fun cA => vp_cell_i cA 4 (fun _ => 0)) (by decide +kernel) (by decide +kernel) (by decide +kernel) (Nat.le_of_ble_eq_true rfl) (Nat.le_of_ble_eq_true rfl) dX5_init_114 (fun q_29 k_30 H hK hP hD hS => ?_)
  have hP : va_P (dC, dI) vwCl [(g0, .inr (4, [.ref q_1, .ref q_3, .ref q_5, .ref q_7, .ref q_9, .ref q_11, .ref q_13, .ref q_15, .ref q_17, .ref q_19, .ref q_21, .ref q_23, .ref q_25, .ref q_27, .null, .null, .null, .null, .int 0, .null, .int 0, .int 0, .int 0])), (q_1, .inl (k_2, 4, .inl (fun _ => 0))), (q_3, .inl (k_4, 4, .inl (fun _ => 0))), (q_5, .inl (k_6, 4, .inl (fun _ => 0))), (q_7, .inl (k_8, 4, .inl (fun _ => 0))), (q_9, .inl (k_10, 4, .inl (fun _ => 0))), (q_11, .inl (k_12, 8000, .inl (fun _ => 0))), (q_13, .inl (k_14, 4, .inl (fun _ => 0))), (q_15, .inl (k_16, 8000, .inl (fun _ => 0))), (q_17, .inl (k_18, 8000, .inl (fun _ => 0))), (q_19, .inl (k_20, 8000, .inl (fun _ => 0))), (q_21, .inl (k_22, 8000, .inl (fun _ => 0))), (q_23, .inl (k_24, 4, .inl (fun _ => 0))), (q_25, .inl (k_26, 4, .inl (fun _ => 0))), (q_27, .inl (k_28, 4, .inl (fun _ => 0))), (q_29, .inl (k_30, 4, .inl (fun _ => 0)))] H := hP
  have hD : va_D A [(g0, .inr (4, [.ref q_1, .ref q_3, .ref q_5, .ref q_7, .ref q_9, .ref q_11, .ref q_13, .ref q_15, .ref q_17, .ref q_19, .ref q_21, .ref q_23, .ref q_25, .ref q_27, .null, .null, .null, .null, .int 0, .null, .int 0, .int 0, .int 0])), (q_1, .inl (k_2, 4, .inl (fun _ => 0))), (q_3, .inl (k_4, 4, .inl (fun _ => 0))), (q_5, .inl (k_6, 4, .inl (fun _ => 0))), (q_7, .inl (k_8, 4, .inl (fun _ => 0))), (q_9, .inl (k_10, 4, .inl (fun _ => 0))), (q_11, .inl (k_12, 8000, .inl (fun _ => 0))), (q_13, .inl (k_14, 4, .inl (fun _ => 0))), (q_15, .inl (k_16, 8000, .inl (fun _ => 0))), (q_17, .inl (k_18, 8000, .inl (fun _ => 0))), (q_19, .inl (k_20, 8000, .inl (fun _ => 0))), (q_21, .inl (k_22, 8000, .inl (fun _ => 0))), (q_23, .inl (k_24, 4, .inl (fun _ => 0))), (q_25, .inl (k_26, 4, .inl (fun _ => 0))), (q_27, .inl (k_28, 4, .inl (fun _ => 0))), (q_29, .inl (k_30, 4, .inl (fun _ => 0)))] := hD
  have hK : va_K (dC, dI) vwCl [(k_2, .boolean), (k_4, .boolean), (k_6, .int), (k_8, .int), (k_10, .int), (k_12, .int), (k_14, .int), (k_16, .int), (k_18, .int), (k_20, .int), (k_22, .boolean), (k_24, .int), (k_26, .int), (k_28, .int), (k_30, .int)] s := hK
  refine W.widen (k := 15) (n := 40040) (by omega) (by omega) ?_
  refine va_putF (D := (dC, dI)) (ci := 4) (v := .ref q_29) (ty := .array (.int)) (C := RX5) (T := TX5) (N := 23) hx hb hts (by decide +kernel) tyX5 tyX5_ok nmX5 hown hK hP hD hS 0 rfl rfl 14 (by decide) (hts (.fieldLink RX5 53 "SignFormsModel" "broken" "[I") (by decide +kernel)) (fun _ h9 => h9) rfl hin rfl (by decide +kernel) rfl rfl (Nat.le_of_ble_eq_true rfl) dX5_init_116 (fun H locs hP hD hS => ?_)
  have hP : va_P (dC, dI) vwCl [(g0, .inr (4, [.ref q_1, .ref q_3, .ref q_5, .ref q_7, .ref q_9, .ref q_11, .ref q_13, .ref q_15, .ref q_17, .ref q_19, .ref q_21, .ref q_23, .ref q_25, .ref q_27, .ref q_29, .null, .null, .null, .int 0, .null, .int 0, .int 0, .int 0])), (q_1, .inl (k_2, 4, .inl (fun _ => 0))), (q_3, .inl (k_4, 4, .inl (fun _ => 0))), (q_5, .inl (k_6, 4, .inl (fun _ => 0))), (q_7, .inl (k_8, 4, .inl (fun _ => 0))), (q_9, .inl (k_10, 4, .inl (fun _ => 0))), (q_11, .inl (k_12, 8000, .inl (fun _ => 0))), (q_13, .inl (k_14, 4, .inl (fun _ => 0))), (q_15, .inl (k_16, 8000, .inl (fun _ => 0))), (q_17, .inl (k_18, 8000, .inl (fun _ => 0))), (q_19, .inl (k_20, 8000, .inl (fun _ => 0))), (q_21, .inl (k_22, 8000, .inl (fun _ => 0))), (q_23, .inl (k_24, 4, .inl (fun _ => 0))), (q_25, .inl (k_26, 4, .inl (fun _ => 0))), (q_27, .inl (k_28, 4, .inl (fun _ => 0))), (q_29, .inl (k_30, 4, .inl (fun _ => 0)))] H := hP
  have hD : va_D A [(g0, .inr (4, [.ref q_1, .ref q_3, .ref q_5, .ref q_7, .ref q_9, .ref q_11, .ref q_13, .ref q_15, .ref q_17, .ref q_19, .ref q_21, .ref q_23, .ref q_25, .ref q_27, .ref q_29, .null, .null, .null, .int 0, .null, .int 0, .int 0, .int 0])), (q_1, .inl (k_2, 4, .inl (fun _ => 0))), (q_3, .inl (k_4, 4, .inl (fun _ => 0))), (q_5, .inl (k_6, 4, .inl (fun _ => 0))), (q_7, .inl (k_8, 4, .inl (fun _ => 0))), (q_9, .inl (k_10, 4, .inl (fun _ => 0))), (q_11, .inl (k_12, 8000, .inl (fun _ => 0))), (q_13, .inl (k_14, 4, .inl (fun _ => 0))), (q_15, .inl (k_16, 8000, .inl (fun _ => 0))), (q_17, .inl (k_18, 8000, .inl (fun _ => 0))), (q_19, .inl (k_20, 8000, .inl (fun _ => 0))), (q_21, .inl (k_22, 8000, .inl (fun _ => 0))), (q_23, .inl (k_24, 4, .inl (fun _ => 0))), (q_25, .inl (k_26, 4, .inl (fun _ => 0))), (q_27, .inl (k_28, 4, .inl (fun _ => 0))), (q_29, .inl (k_30, 4, .inl (fun _ => 0)))] := hD
  refine lv_aload_n hx hb dX5_init_119 rfl (lv_at hl 0 rfl) ?_
  refine lv_iconst (v := 4) hx hb dX5_init_120 (by decide) ?_
  refine va_newa (atype := .int) (ty := .int) (a0 := (4, .inl (fun _ => 0))) (N' := 4) hx hb (hts (.arrayClass .int) (by decide +kernel)) rfl hK hP hD hS hA (fun cA => vp_cell_i cA 4 (fun _ => 0)) (by decide +kernel) (by decide +kernel) (by decide +kernel) (Nat.le_of_ble_eq_true rfl) (Nat.le_of_ble_eq_true rfl) dX5_init_121 (fun q_31 k_32 H hK hP hD hS => ?_)
  have hP : va_P (dC, dI) vwCl [(g0, .inr (4, [.ref q_1, .ref q_3, .ref q_5, .ref q_7, .ref q_9, .ref q_11, .ref q_13, .ref q_15, .ref q_17, .ref q_19, .ref q_21, .ref q_23, .ref q_25, .ref q_27, .ref q_29, .null, .null, .null, .int 0, .null, .int 0, .int 0, .int 0])), (q_1, .inl (k_2, 4, .inl (fun _ => 0))), (q_3, .inl (k_4, 4, .inl (fun _ => 0))), (q_5, .inl (k_6, 4, .inl (fun _ => 0))), (q_7, .inl (k_8, 4, .inl (fun _ => 0))), (q_9, .inl (k_10, 4, .inl (fun _ => 0))), (q_11, .inl (k_12, 8000, .inl (fun _ => 0))), (q_13, .inl (k_14, 4, .inl (fun _ => 0))), (q_15, .inl (k_16, 8000, .inl (fun _ => 0))), (q_17, .inl (k_18, 8000, .inl (fun _ => 0))), (q_19, .inl (k_20, 8000, .inl (fun _ => 0))), (q_21, .inl (k_22, 8000, .inl (fun _ => 0))), (q_23, .inl (k_24, 4, .inl (fun _ => 0))), (q_25, .inl (k_26, 4, .inl (fun _ => 0))), (q_27, .inl (k_28, 4, .inl (fun _ => 0))), (q_29, .inl (k_30, 4, .inl (fun _ => 0))), (q_31, .inl (k_32, 4, .inl (fun _ => 0)))] H := hP
  have hD : va_D A [(g0, .inr (4, [.ref q_1, .ref q_3, .ref q_5, .ref q_7, .ref q_9, .ref q_11, .ref q_13, .ref q_15, .ref q_17, .ref q_19, .ref q_21, .ref q_23, .ref q_25, .ref q_27, .ref q_29, .null, .null, .null, .int 0, .null, .int 0, .int 0, .int 0])), (q_1, .inl (k_2, 4, .inl (fun _ => 0))), (q_3, .inl (k_4, 4, .inl (fun _ => 0))), (q_5, .inl (k_6, 4, .inl (fun _ => 0))), (q_7, .inl (k_8, 4, .inl (fun _ => 0))), (q_9, .inl (k_10, 4, .inl (fun _ => 0))), (q_11, .inl (k_12, 8000, .inl (fun _ => 0))), (q_13, .inl (k_14, 4, .inl (fun _ => 0))), (q_15, .inl (k_16, 8000, .inl (fun _ => 0))), (q_17, .inl (k_18, 8000, .inl (fun _ => 0))), (q_19, .inl (k_20, 8000, .inl (fun _ => 0))), (q_21, .inl (k_22, 8000, .inl (fun _ => 0))), (q_23, .inl (k_24, 4, .inl (fun _ => 0))), (q_25, .inl (k_26, 4, .inl (fun _ => 0))), (q_27, .inl (k_28, 4, .inl (fun _ => 0))), (q_29, .inl (k_30, 4, .inl (fun _ => 0))), (q_31, .inl (k_32, 4, .inl (fun _ => 0)))] := hD
  have hK : va_K (dC, dI) vwCl [(k_2, .boolean), (k_4, .boolean), (k_6, .int), (k_8, .int), (k_10, .int), (k_12, .int), (k_14, .int), (k_16, .int), (k_18, .int), (k_20, .int), (k_22, .boolean), (k_24, .int), (k_26, .int), (k_28, .int), (k_30, .int), (k_32, .int)] s := hK
  refine W.widen (k := 16) (n := 40044) (by omega) (by omega) ?_
  refine va_putF (D := (dC, dI)) (ci := 4) (v := .ref q_31) (ty := .array (.int)) (C := RX5) (T := TX5) (N := 23) hx hb hts (by decide +kernel) tyX5 tyX5_ok nmX5 hown hK hP hD hS 0 rfl rfl 15 (by decide) (hts (.fieldLink RX5 56 "SignFormsModel" "firstSubpart" "[I") (by decide +kernel)) (fun _ h9 => h9) rfl hin rfl (by decide +kernel) rfl rfl (Nat.le_of_ble_eq_true rfl) dX5_init_123 (fun H locs hP hD hS => ?_)
  have hP : va_P (dC, dI) vwCl [(g0, .inr (4, [.ref q_1, .ref q_3, .ref q_5, .ref q_7, .ref q_9, .ref q_11, .ref q_13, .ref q_15, .ref q_17, .ref q_19, .ref q_21, .ref q_23, .ref q_25, .ref q_27, .ref q_29, .ref q_31, .null, .null, .int 0, .null, .int 0, .int 0, .int 0])), (q_1, .inl (k_2, 4, .inl (fun _ => 0))), (q_3, .inl (k_4, 4, .inl (fun _ => 0))), (q_5, .inl (k_6, 4, .inl (fun _ => 0))), (q_7, .inl (k_8, 4, .inl (fun _ => 0))), (q_9, .inl (k_10, 4, .inl (fun _ => 0))), (q_11, .inl (k_12, 8000, .inl (fun _ => 0))), (q_13, .inl (k_14, 4, .inl (fun _ => 0))), (q_15, .inl (k_16, 8000, .inl (fun _ => 0))), (q_17, .inl (k_18, 8000, .inl (fun _ => 0))), (q_19, .inl (k_20, 8000, .inl (fun _ => 0))), (q_21, .inl (k_22, 8000, .inl (fun _ => 0))), (q_23, .inl (k_24, 4, .inl (fun _ => 0))), (q_25, .inl (k_26, 4, .inl (fun _ => 0))), (q_27, .inl (k_28, 4, .inl (fun _ => 0))), (q_29, .inl (k_30, 4, .inl (fun _ => 0))), (q_31, .inl (k_32, 4, .inl (fun _ => 0)))] H := hP
  have hD : va_D A [(g0, .inr (4, [.ref q_1, .ref q_3, .ref q_5, .ref q_7, .ref q_9, .ref q_11, .ref q_13, .ref q_15, .ref q_17, .ref q_19, .ref q_21, .ref q_23, .ref q_25, .ref q_27, .ref q_29, .ref q_31, .null, .null, .int 0, .null, .int 0, .int 0, .int 0])), (q_1, .inl (k_2, 4, .inl (fun _ => 0))), (q_3, .inl (k_4, 4, .inl (fun _ => 0))), (q_5, .inl (k_6, 4, .inl (fun _ => 0))), (q_7, .inl (k_8, 4, .inl (fun _ => 0))), (q_9, .inl (k_10, 4, .inl (fun _ => 0))), (q_11, .inl (k_12, 8000, .inl (fun _ => 0))), (q_13, .inl (k_14, 4, .inl (fun _ => 0))), (q_15, .inl (k_16, 8000, .inl (fun _ => 0))), (q_17, .inl (k_18, 8000, .inl (fun _ => 0))), (q_19, .inl (k_20, 8000, .inl (fun _ => 0))), (q_21, .inl (k_22, 8000, .inl (fun _ => 0))), (q_23, .inl (k_24, 4, .inl (fun _ => 0))), (q_25, .inl (k_26, 4, .inl (fun _ => 0))), (q_27, .inl (k_28, 4, .inl (fun _ => 0))), (q_29, .inl (k_30, 4, .inl (fun _ => 0))), (q_31, .inl (k_32, 4, .inl (fun _ => 0)))] := hD
  refine lv_aload_n hx hb dX5_init_126 rfl (lv_at hl 0 rfl) ?_
  refine lv_iconst (v := 4) hx hb dX5_init_127 (by decide) ?_
  refine va_newa (atype := .boolean) (ty := .boolean) (a0 := (4, .inl (fun _ => 0))) (N' := 4) hx hb (hts (.arrayClass .boolean) (by decide +kernel)) rfl hK hP hD hS hA (fun cA => vp_cell_i cA 4 (fun _ => 0)) (by decide +kernel) (by decide +kernel) (by decide +kernel) (Nat.le_of_ble_eq_true rfl) (Nat.le_of_ble_eq_true rfl) dX5_init_128 (fun q_33 k_34 H hK hP hD hS => ?_)
  have hP : va_P (dC, dI) vwCl [(g0, .inr (4, [.ref q_1, .ref q_3, .ref q_5, .ref q_7, .ref q_9, .ref q_11, .ref q_13, .ref q_15, .ref q_17, .ref q_19, .ref q_21, .ref q_23, .ref q_25, .ref q_27, .ref q_29, .ref q_31, .null, .null, .int 0, .null, .int 0, .int 0, .int 0])), (q_1, .inl (k_2, 4, .inl (fun _ => 0))), (q_3, .inl (k_4, 4, .inl (fun _ => 0))), (q_5, .inl (k_6, 4, .inl (fun _ => 0))), (q_7, .inl (k_8, 4, .inl (fun _ => 0))), (q_9, .inl (k_10, 4, .inl (fun _ => 0))), (q_11, .inl (k_12, 8000, .inl (fun _ => 0))), (q_13, .inl (k_14, 4, .inl (fun _ => 0))), (q_15, .inl (k_16, 8000, .inl (fun _ => 0))), (q_17, .inl (k_18, 8000, .inl (fun _ => 0))), (q_19, .inl (k_20, 8000, .inl (fun _ => 0))), (q_21, .inl (k_22, 8000, .inl (fun _ => 0))), (q_23, .inl (k_24, 4, .inl (fun _ => 0))), (q_25, .inl (k_26, 4, .inl (fun _ => 0))), (q_27, .inl (k_28, 4, .inl (fun _ => 0))), (q_29, .inl (k_30, 4, .inl (fun _ => 0))), (q_31, .inl (k_32, 4, .inl (fun _ => 0))), (q_33, .inl (k_34, 4, .inl (fun _ => 0)))] H := hP
  have hD : va_D A [(g0, .inr (4, [.ref q_1, .ref q_3, .ref q_5, .ref q_7, .ref q_9, .ref q_11, .ref q_13, .ref q_15, .ref q_17, .ref q_19, .ref q_21, .ref q_23, .ref q_25, .ref q_27, .ref q_29, .ref q_31, .null, .null, .int 0, .null, .int 0, .int 0, .int 0])), (q_1, .inl (k_2, 4, .inl (fun _ => 0))), (q_3, .inl (k_4, 4, .inl (fun _ => 0))), (q_5, .inl (k_6, 4, .inl (fun _ => 0))), (q_7, .inl (k_8, 4, .inl (fun _ => 0))), (q_9, .inl (k_10, 4, .inl (fun _ => 0))), (q_11, .inl (k_12, 8000, .inl (fun _ => 0))), (q_13, .inl (k_14, 4, .inl (fun _ => 0))), (q_15, .inl (k_16, 8000, .inl (fun _ => 0))), (q_17, .inl (k_18, 8000, .inl (fun _ => 0))), (q_19, .inl (k_20, 8000, .inl (fun _ => 0))), (q_21, .inl (k_22, 8000, .inl (fun _ => 0))), (q_23, .inl (k_24, 4, .inl (fun _ => 0))), (q_25, .inl (k_26, 4, .inl (fun _ => 0))), (q_27, .inl (k_28, 4, .inl (fun _ => 0))), (q_29, .inl (k_30, 4, .inl (fun _ => 0))), (q_31, .inl (k_32, 4, .inl (fun _ => 0))), (q_33, .inl (k_34, 4, .inl (fun _ => 0)))] := hD
  have hK : va_K (dC, dI) vwCl [(k_2, .boolean), (k_4, .boolean), (k_6, .int), (k_8, .int), (k_10, .int), (k_12, .int), (k_14, .int), (k_16, .int), (k_18, .int), (k_20, .int), (k_22, .boolean), (k_24, .int), (k_26, .int), (k_28, .int), (k_30, .int), (k_32, .int), (k_34, .boolean)] s := hK
  refine W.widen (k := 17) (n := 40048) (by omega) (by omega) ?_
  refine va_putF (D := (dC, dI)) (ci := 4) (v := .ref q_33) (ty := .array (.boolean)) (C := RX5) (T := TX5) (N := 23) hx hb hts (by decide +kernel) tyX5 tyX5_ok nmX5 hown hK hP hD hS 0 rfl rfl 16 (by decide) (hts (.fieldLink RX5 59 "SignFormsModel" "isMarked" "[Z") (by decide +kernel)) (fun _ h9 => h9) rfl hin rfl (by decide +kernel) rfl rfl (Nat.le_of_ble_eq_true rfl) dX5_init_130 (fun H locs hP hD hS => ?_)
  have hP : va_P (dC, dI) vwCl [(g0, .inr (4, [.ref q_1, .ref q_3, .ref q_5, .ref q_7, .ref q_9, .ref q_11, .ref q_13, .ref q_15, .ref q_17, .ref q_19, .ref q_21, .ref q_23, .ref q_25, .ref q_27, .ref q_29, .ref q_31, .ref q_33, .null, .int 0, .null, .int 0, .int 0, .int 0])), (q_1, .inl (k_2, 4, .inl (fun _ => 0))), (q_3, .inl (k_4, 4, .inl (fun _ => 0))), (q_5, .inl (k_6, 4, .inl (fun _ => 0))), (q_7, .inl (k_8, 4, .inl (fun _ => 0))), (q_9, .inl (k_10, 4, .inl (fun _ => 0))), (q_11, .inl (k_12, 8000, .inl (fun _ => 0))), (q_13, .inl (k_14, 4, .inl (fun _ => 0))), (q_15, .inl (k_16, 8000, .inl (fun _ => 0))), (q_17, .inl (k_18, 8000, .inl (fun _ => 0))), (q_19, .inl (k_20, 8000, .inl (fun _ => 0))), (q_21, .inl (k_22, 8000, .inl (fun _ => 0))), (q_23, .inl (k_24, 4, .inl (fun _ => 0))), (q_25, .inl (k_26, 4, .inl (fun _ => 0))), (q_27, .inl (k_28, 4, .inl (fun _ => 0))), (q_29, .inl (k_30, 4, .inl (fun _ => 0))), (q_31, .inl (k_32, 4, .inl (fun _ => 0))), (q_33, .inl (k_34, 4, .inl (fun _ => 0)))] H := hP
  have hD : va_D A [(g0, .inr (4, [.ref q_1, .ref q_3, .ref q_5, .ref q_7, .ref q_9, .ref q_11, .ref q_13, .ref q_15, .ref q_17, .ref q_19, .ref q_21, .ref q_23, .ref q_25, .ref q_27, .ref q_29, .ref q_31, .ref q_33, .null, .int 0, .null, .int 0, .int 0, .int 0])), (q_1, .inl (k_2, 4, .inl (fun _ => 0))), (q_3, .inl (k_4, 4, .inl (fun _ => 0))), (q_5, .inl (k_6, 4, .inl (fun _ => 0))), (q_7, .inl (k_8, 4, .inl (fun _ => 0))), (q_9, .inl (k_10, 4, .inl (fun _ => 0))), (q_11, .inl (k_12, 8000, .inl (fun _ => 0))), (q_13, .inl (k_14, 4, .inl (fun _ => 0))), (q_15, .inl (k_16, 8000, .inl (fun _ => 0))), (q_17, .inl (k_18, 8000, .inl (fun _ => 0))), (q_19, .inl (k_20, 8000, .inl (fun _ => 0))), (q_21, .inl (k_22, 8000, .inl (fun _ => 0))), (q_23, .inl (k_24, 4, .inl (fun _ => 0))), (q_25, .inl (k_26, 4, .inl (fun _ => 0))), (q_27, .inl (k_28, 4, .inl (fun _ => 0))), (q_29, .inl (k_30, 4, .inl (fun _ => 0))), (q_31, .inl (k_32, 4, .inl (fun _ => 0))), (q_33, .inl (k_34, 4, .inl (fun _ => 0)))] := hD
  refine lv_aload_n hx hb dX5_init_133 rfl (lv_at hl 0 rfl) ?_
  refine lv_sipush (v := 6000) hx hb dX5_init_134 (by decide +kernel) ?_
  refine va_newa (atype := .int) (ty := .int) (a0 := (6000, .inl (fun _ => 0))) (N' := 6000) hx hb (hts (.arrayClass .int) (by decide +kernel)) rfl hK hP hD hS hA (fun cA => vp_cell_i cA 6000 (fun _ => 0)) (by decide +kernel) (by decide +kernel) (by decide +kernel) (Nat.le_of_ble_eq_true rfl) (Nat.le_of_ble_eq_true rfl) dX5_init_137 (fun q_35 k_36 H hK hP hD hS => ?_)
  have hP : va_P (dC, dI) vwCl [(g0, .inr (4, [.ref q_1, .ref q_3, .ref q_5, .ref q_7, .ref q_9, .ref q_11, .ref q_13, .ref q_15, .ref q_17, .ref q_19, .ref q_21, .ref q_23, .ref q_25, .ref q_27, .ref q_29, .ref q_31, .ref q_33, .null, .int 0, .null, .int 0, .int 0, .int 0])), (q_1, .inl (k_2, 4, .inl (fun _ => 0))), (q_3, .inl (k_4, 4, .inl (fun _ => 0))), (q_5, .inl (k_6, 4, .inl (fun _ => 0))), (q_7, .inl (k_8, 4, .inl (fun _ => 0))), (q_9, .inl (k_10, 4, .inl (fun _ => 0))), (q_11, .inl (k_12, 8000, .inl (fun _ => 0))), (q_13, .inl (k_14, 4, .inl (fun _ => 0))), (q_15, .inl (k_16, 8000, .inl (fun _ => 0))), (q_17, .inl (k_18, 8000, .inl (fun _ => 0))), (q_19, .inl (k_20, 8000, .inl (fun _ => 0))), (q_21, .inl (k_22, 8000, .inl (fun _ => 0))), (q_23, .inl (k_24, 4, .inl (fun _ => 0))), (q_25, .inl (k_26, 4, .inl (fun _ => 0))), (q_27, .inl (k_28, 4, .inl (fun _ => 0))), (q_29, .inl (k_30, 4, .inl (fun _ => 0))), (q_31, .inl (k_32, 4, .inl (fun _ => 0))), (q_33, .inl (k_34, 4, .inl (fun _ => 0))), (q_35, .inl (k_36, 6000, .inl (fun _ => 0)))] H := hP
  have hD : va_D A [(g0, .inr (4, [.ref q_1, .ref q_3, .ref q_5, .ref q_7, .ref q_9, .ref q_11, .ref q_13, .ref q_15, .ref q_17, .ref q_19, .ref q_21, .ref q_23, .ref q_25, .ref q_27, .ref q_29, .ref q_31, .ref q_33, .null, .int 0, .null, .int 0, .int 0, .int 0])), (q_1, .inl (k_2, 4, .inl (fun _ => 0))), (q_3, .inl (k_4, 4, .inl (fun _ => 0))), (q_5, .inl (k_6, 4, .inl (fun _ => 0))), (q_7, .inl (k_8, 4, .inl (fun _ => 0))), (q_9, .inl (k_10, 4, .inl (fun _ => 0))), (q_11, .inl (k_12, 8000, .inl (fun _ => 0))), (q_13, .inl (k_14, 4, .inl (fun _ => 0))), (q_15, .inl (k_16, 8000, .inl (fun _ => 0))), (q_17, .inl (k_18, 8000, .inl (fun _ => 0))), (q_19, .inl (k_20, 8000, .inl (fun _ => 0))), (q_21, .inl (k_22, 8000, .inl (fun _ => 0))), (q_23, .inl (k_24, 4, .inl (fun _ => 0))), (q_25, .inl (k_26, 4, .inl (fun _ => 0))), (q_27, .inl (k_28, 4, .inl (fun _ => 0))), (q_29, .inl (k_30, 4, .inl (fun _ => 0))), (q_31, .inl (k_32, 4, .inl (fun _ => 0))), (q_33, .inl (k_34, 4, .inl (fun _ => 0))), (q_35, .inl (k_36, 6000, .inl (fun _ => 0)))] := hD
  have hK : va_K (dC, dI) vwCl [(k_2, .boolean), (k_4, .boolean), (k_6, .int), (k_8, .int), (k_10, .int), (k_12, .int), (k_14, .int), (k_16, .int), (k_18, .int), (k_20, .int), (k_22, .boolean), (k_24, .int), (k_26, .int), (k_28, .int), (k_30, .int), (k_32, .int), (k_34, .boolean), (k_36, .int)] s := hK
  refine W.widen (k := 18) (n := 46048) (by omega) (by omega) ?_
  refine va_putF (D := (dC, dI)) (ci := 4) (v := .ref q_35) (ty := .array (.int)) (C := RX5) (T := TX5) (N := 23) hx hb hts (by decide +kernel) tyX5 tyX5_ok nmX5 hown hK hP hD hS 0 rfl rfl 17 (by decide) (hts (.fieldLink RX5 62 "SignFormsModel" "out" "[I") (by decide +kernel)) (fun _ h9 => h9) rfl hin rfl (by decide +kernel) rfl rfl (Nat.le_of_ble_eq_true rfl) dX5_init_139 (fun H locs hP hD hS => ?_)
  have hP : va_P (dC, dI) vwCl [(g0, .inr (4, [.ref q_1, .ref q_3, .ref q_5, .ref q_7, .ref q_9, .ref q_11, .ref q_13, .ref q_15, .ref q_17, .ref q_19, .ref q_21, .ref q_23, .ref q_25, .ref q_27, .ref q_29, .ref q_31, .ref q_33, .ref q_35, .int 0, .null, .int 0, .int 0, .int 0])), (q_1, .inl (k_2, 4, .inl (fun _ => 0))), (q_3, .inl (k_4, 4, .inl (fun _ => 0))), (q_5, .inl (k_6, 4, .inl (fun _ => 0))), (q_7, .inl (k_8, 4, .inl (fun _ => 0))), (q_9, .inl (k_10, 4, .inl (fun _ => 0))), (q_11, .inl (k_12, 8000, .inl (fun _ => 0))), (q_13, .inl (k_14, 4, .inl (fun _ => 0))), (q_15, .inl (k_16, 8000, .inl (fun _ => 0))), (q_17, .inl (k_18, 8000, .inl (fun _ => 0))), (q_19, .inl (k_20, 8000, .inl (fun _ => 0))), (q_21, .inl (k_22, 8000, .inl (fun _ => 0))), (q_23, .inl (k_24, 4, .inl (fun _ => 0))), (q_25, .inl (k_26, 4, .inl (fun _ => 0))), (q_27, .inl (k_28, 4, .inl (fun _ => 0))), (q_29, .inl (k_30, 4, .inl (fun _ => 0))), (q_31, .inl (k_32, 4, .inl (fun _ => 0))), (q_33, .inl (k_34, 4, .inl (fun _ => 0))), (q_35, .inl (k_36, 6000, .inl (fun _ => 0)))] H := hP
  have hD : va_D A [(g0, .inr (4, [.ref q_1, .ref q_3, .ref q_5, .ref q_7, .ref q_9, .ref q_11, .ref q_13, .ref q_15, .ref q_17, .ref q_19, .ref q_21, .ref q_23, .ref q_25, .ref q_27, .ref q_29, .ref q_31, .ref q_33, .ref q_35, .int 0, .null, .int 0, .int 0, .int 0])), (q_1, .inl (k_2, 4, .inl (fun _ => 0))), (q_3, .inl (k_4, 4, .inl (fun _ => 0))), (q_5, .inl (k_6, 4, .inl (fun _ => 0))), (q_7, .inl (k_8, 4, .inl (fun _ => 0))), (q_9, .inl (k_10, 4, .inl (fun _ => 0))), (q_11, .inl (k_12, 8000, .inl (fun _ => 0))), (q_13, .inl (k_14, 4, .inl (fun _ => 0))), (q_15, .inl (k_16, 8000, .inl (fun _ => 0))), (q_17, .inl (k_18, 8000, .inl (fun _ => 0))), (q_19, .inl (k_20, 8000, .inl (fun _ => 0))), (q_21, .inl (k_22, 8000, .inl (fun _ => 0))), (q_23, .inl (k_24, 4, .inl (fun _ => 0))), (q_25, .inl (k_26, 4, .inl (fun _ => 0))), (q_27, .inl (k_28, 4, .inl (fun _ => 0))), (q_29, .inl (k_30, 4, .inl (fun _ => 0))), (q_31, .inl (k_32, 4, .inl (fun _ => 0))), (q_33, .inl (k_34, 4, .inl (fun _ => 0))), (q_35, .inl (k_36, 6000, .inl (fun _ => 0)))] := hD
  refine lv_aload_n hx hb dX5_init_142 rfl (lv_at hl 0 rfl) ?_
  refine lv_sipush (v := 6000) hx hb dX5_init_143 (by decide +kernel) ?_
  refine va_newa (atype := .int) (ty := .int) (a0 := (6000, .inl (fun _ => 0))) (N' := 6000) hx hb (hts (.arrayClass .int) (by decide +kernel)) rfl hK hP hD hS hA (fun cA => vp_cell_i cA 6000 (fun _ => 0)) (by decide +kernel) (by decide +kernel) (by decide +kernel) (Nat.le_of_ble_eq_true rfl) (Nat.le_of_ble_eq_true rfl) dX5_init_146 (fun q_37 k_38 H hK hP hD hS => ?_)
  have hP : va_P (dC, dI) vwCl [(g0, .inr (4, [.ref q_1, .ref q_3, .ref q_5, .ref q_7, .ref q_9, .ref q_11, .ref q_13, .ref q_15, .ref q_17, .ref q_19, .ref q_21, .ref q_23, .ref q_25, .ref q_27, .ref q_29, .ref q_31, .ref q_33, .ref q_35, .int 0, .null, .int 0, .int 0, .int 0])), (q_1, .inl (k_2, 4, .inl (fun _ => 0))), (q_3, .inl (k_4, 4, .inl (fun _ => 0))), (q_5, .inl (k_6, 4, .inl (fun _ => 0))), (q_7, .inl (k_8, 4, .inl (fun _ => 0))), (q_9, .inl (k_10, 4, .inl (fun _ => 0))), (q_11, .inl (k_12, 8000, .inl (fun _ => 0))), (q_13, .inl (k_14, 4, .inl (fun _ => 0))), (q_15, .inl (k_16, 8000, .inl (fun _ => 0))), (q_17, .inl (k_18, 8000, .inl (fun _ => 0))), (q_19, .inl (k_20, 8000, .inl (fun _ => 0))), (q_21, .inl (k_22, 8000, .inl (fun _ => 0))), (q_23, .inl (k_24, 4, .inl (fun _ => 0))), (q_25, .inl (k_26, 4, .inl (fun _ => 0))), (q_27, .inl (k_28, 4, .inl (fun _ => 0))), (q_29, .inl (k_30, 4, .inl (fun _ => 0))), (q_31, .inl (k_32, 4, .inl (fun _ => 0))), (q_33, .inl (k_34, 4, .inl (fun _ => 0))), (q_35, .inl (k_36, 6000, .inl (fun _ => 0))), (q_37, .inl (k_38, 6000, .inl (fun _ => 0)))] H := hP
  have hD : va_D A [(g0, .inr (4, [.ref q_1, .ref q_3, .ref q_5, .ref q_7, .ref q_9, .ref q_11, .ref q_13, .ref q_15, .ref q_17, .ref q_19, .ref q_21, .ref q_23, .ref q_25, .ref q_27, .ref q_29, .ref q_31, .ref q_33, .ref q_35, .int 0, .null, .int 0, .int 0, .int 0])), (q_1, .inl (k_2, 4, .inl (fun _ => 0))), (q_3, .inl (k_4, 4, .inl (fun _ => 0))), (q_5, .inl (k_6, 4, .inl (fun _ => 0))), (q_7, .inl (k_8, 4, .inl (fun _ => 0))), (q_9, .inl (k_10, 4, .inl (fun _ => 0))), (q_11, .inl (k_12, 8000, .inl (fun _ => 0))), (q_13, .inl (k_14, 4, .inl (fun _ => 0))), (q_15, .inl (k_16, 8000, .inl (fun _ => 0))), (q_17, .inl (k_18, 8000, .inl (fun _ => 0))), (q_19, .inl (k_20, 8000, .inl (fun _ => 0))), (q_21, .inl (k_22, 8000, .inl (fun _ => 0))), (q_23, .inl (k_24, 4, .inl (fun _ => 0))), (q_25, .inl (k_26, 4, .inl (fun _ => 0))), (q_27, .inl (k_28, 4, .inl (fun _ => 0))), (q_29, .inl (k_30, 4, .inl (fun _ => 0))), (q_31, .inl (k_32, 4, .inl (fun _ => 0))), (q_33, .inl (k_34, 4, .inl (fun _ => 0))), (q_35, .inl (k_36, 6000, .inl (fun _ => 0))), (q_37, .inl (k_38, 6000, .inl (fun _ => 0)))] := hD
  have hK : va_K (dC, dI) vwCl [(k_2, .boolean), (k_4, .boolean), (k_6, .int), (k_8, .int), (k_10, .int), (k_12, .int), (k_14, .int), (k_16, .int), (k_18, .int), (k_20, .int), (k_22, .boolean), (k_24, .int), (k_26, .int), (k_28, .int), (k_30, .int), (k_32, .int), (k_34, .boolean), (k_36, .int), (k_38, .int)] s := hK
  refine W.widen (k := 19) (n := 52048) (by omega) (by omega) ?_
  refine va_putF (D := (dC, dI)) (ci := 4) (v := .ref q_37) (ty := .array (.int)) (C := RX5) (T := TX5) (N := 23) hx hb hts (by decide +kernel) tyX5 tyX5_ok nmX5 hown hK hP hD hS 0 rfl rfl 19 (by decide) (hts (.fieldLink RX5 65 "SignFormsModel" "row" "[I") (by decide +kernel)) (fun _ h9 => h9) rfl hin rfl (by decide +kernel) rfl rfl (Nat.le_of_ble_eq_true rfl) dX5_init_148 (fun H locs hP hD hS => ?_)
  have hP : va_P (dC, dI) vwCl [(g0, .inr (4, [.ref q_1, .ref q_3, .ref q_5, .ref q_7, .ref q_9, .ref q_11, .ref q_13, .ref q_15, .ref q_17, .ref q_19, .ref q_21, .ref q_23, .ref q_25, .ref q_27, .ref q_29, .ref q_31, .ref q_33, .ref q_35, .int 0, .ref q_37, .int 0, .int 0, .int 0])), (q_1, .inl (k_2, 4, .inl (fun _ => 0))), (q_3, .inl (k_4, 4, .inl (fun _ => 0))), (q_5, .inl (k_6, 4, .inl (fun _ => 0))), (q_7, .inl (k_8, 4, .inl (fun _ => 0))), (q_9, .inl (k_10, 4, .inl (fun _ => 0))), (q_11, .inl (k_12, 8000, .inl (fun _ => 0))), (q_13, .inl (k_14, 4, .inl (fun _ => 0))), (q_15, .inl (k_16, 8000, .inl (fun _ => 0))), (q_17, .inl (k_18, 8000, .inl (fun _ => 0))), (q_19, .inl (k_20, 8000, .inl (fun _ => 0))), (q_21, .inl (k_22, 8000, .inl (fun _ => 0))), (q_23, .inl (k_24, 4, .inl (fun _ => 0))), (q_25, .inl (k_26, 4, .inl (fun _ => 0))), (q_27, .inl (k_28, 4, .inl (fun _ => 0))), (q_29, .inl (k_30, 4, .inl (fun _ => 0))), (q_31, .inl (k_32, 4, .inl (fun _ => 0))), (q_33, .inl (k_34, 4, .inl (fun _ => 0))), (q_35, .inl (k_36, 6000, .inl (fun _ => 0))), (q_37, .inl (k_38, 6000, .inl (fun _ => 0)))] H := hP
  have hD : va_D A [(g0, .inr (4, [.ref q_1, .ref q_3, .ref q_5, .ref q_7, .ref q_9, .ref q_11, .ref q_13, .ref q_15, .ref q_17, .ref q_19, .ref q_21, .ref q_23, .ref q_25, .ref q_27, .ref q_29, .ref q_31, .ref q_33, .ref q_35, .int 0, .ref q_37, .int 0, .int 0, .int 0])), (q_1, .inl (k_2, 4, .inl (fun _ => 0))), (q_3, .inl (k_4, 4, .inl (fun _ => 0))), (q_5, .inl (k_6, 4, .inl (fun _ => 0))), (q_7, .inl (k_8, 4, .inl (fun _ => 0))), (q_9, .inl (k_10, 4, .inl (fun _ => 0))), (q_11, .inl (k_12, 8000, .inl (fun _ => 0))), (q_13, .inl (k_14, 4, .inl (fun _ => 0))), (q_15, .inl (k_16, 8000, .inl (fun _ => 0))), (q_17, .inl (k_18, 8000, .inl (fun _ => 0))), (q_19, .inl (k_20, 8000, .inl (fun _ => 0))), (q_21, .inl (k_22, 8000, .inl (fun _ => 0))), (q_23, .inl (k_24, 4, .inl (fun _ => 0))), (q_25, .inl (k_26, 4, .inl (fun _ => 0))), (q_27, .inl (k_28, 4, .inl (fun _ => 0))), (q_29, .inl (k_30, 4, .inl (fun _ => 0))), (q_31, .inl (k_32, 4, .inl (fun _ => 0))), (q_33, .inl (k_34, 4, .inl (fun _ => 0))), (q_35, .inl (k_36, 6000, .inl (fun _ => 0))), (q_37, .inl (k_38, 6000, .inl (fun _ => 0)))] := hD
  refine lv_aload_n hx hb dX5_init_151 rfl (lv_at hl 0 rfl) ?_
  refine lv_iconst (v := 0) hx hb dX5_init_152 (by decide) ?_
  refine va_put (D := (dC, dI)) (ci := 4) (v := .int 0) (ty := .int) (C := RX5) (T := TX5) (N := 23) hx hb hts (by decide +kernel) tyX5 tyX5_ok nmX5 hown hK hP hD hS 0 rfl rfl 18 (by decide) (hts (.fieldLink RX5 68 "SignFormsModel" "outSize" "I") (by decide +kernel)) (fun _ h9 => h9) rfl (by decide +kernel) rfl rfl (Nat.le_of_ble_eq_true rfl) dX5_init_153 (fun H locs hP hD hS => ?_)
  have hP : va_P (dC, dI) vwCl [(g0, .inr (4, [.ref q_1, .ref q_3, .ref q_5, .ref q_7, .ref q_9, .ref q_11, .ref q_13, .ref q_15, .ref q_17, .ref q_19, .ref q_21, .ref q_23, .ref q_25, .ref q_27, .ref q_29, .ref q_31, .ref q_33, .ref q_35, .int 0, .ref q_37, .int 0, .int 0, .int 0])), (q_1, .inl (k_2, 4, .inl (fun _ => 0))), (q_3, .inl (k_4, 4, .inl (fun _ => 0))), (q_5, .inl (k_6, 4, .inl (fun _ => 0))), (q_7, .inl (k_8, 4, .inl (fun _ => 0))), (q_9, .inl (k_10, 4, .inl (fun _ => 0))), (q_11, .inl (k_12, 8000, .inl (fun _ => 0))), (q_13, .inl (k_14, 4, .inl (fun _ => 0))), (q_15, .inl (k_16, 8000, .inl (fun _ => 0))), (q_17, .inl (k_18, 8000, .inl (fun _ => 0))), (q_19, .inl (k_20, 8000, .inl (fun _ => 0))), (q_21, .inl (k_22, 8000, .inl (fun _ => 0))), (q_23, .inl (k_24, 4, .inl (fun _ => 0))), (q_25, .inl (k_26, 4, .inl (fun _ => 0))), (q_27, .inl (k_28, 4, .inl (fun _ => 0))), (q_29, .inl (k_30, 4, .inl (fun _ => 0))), (q_31, .inl (k_32, 4, .inl (fun _ => 0))), (q_33, .inl (k_34, 4, .inl (fun _ => 0))), (q_35, .inl (k_36, 6000, .inl (fun _ => 0))), (q_37, .inl (k_38, 6000, .inl (fun _ => 0)))] H := hP
  have hD : va_D A [(g0, .inr (4, [.ref q_1, .ref q_3, .ref q_5, .ref q_7, .ref q_9, .ref q_11, .ref q_13, .ref q_15, .ref q_17, .ref q_19, .ref q_21, .ref q_23, .ref q_25, .ref q_27, .ref q_29, .ref q_31, .ref q_33, .ref q_35, .int 0, .ref q_37, .int 0, .int 0, .int 0])), (q_1, .inl (k_2, 4, .inl (fun _ => 0))), (q_3, .inl (k_4, 4, .inl (fun _ => 0))), (q_5, .inl (k_6, 4, .inl (fun _ => 0))), (q_7, .inl (k_8, 4, .inl (fun _ => 0))), (q_9, .inl (k_10, 4, .inl (fun _ => 0))), (q_11, .inl (k_12, 8000, .inl (fun _ => 0))), (q_13, .inl (k_14, 4, .inl (fun _ => 0))), (q_15, .inl (k_16, 8000, .inl (fun _ => 0))), (q_17, .inl (k_18, 8000, .inl (fun _ => 0))), (q_19, .inl (k_20, 8000, .inl (fun _ => 0))), (q_21, .inl (k_22, 8000, .inl (fun _ => 0))), (q_23, .inl (k_24, 4, .inl (fun _ => 0))), (q_25, .inl (k_26, 4, .inl (fun _ => 0))), (q_27, .inl (k_28, 4, .inl (fun _ => 0))), (q_29, .inl (k_30, 4, .inl (fun _ => 0))), (q_31, .inl (k_32, 4, .inl (fun _ => 0))), (q_33, .inl (k_34, 4, .inl (fun _ => 0))), (q_35, .inl (k_36, 6000, .inl (fun _ => 0))), (q_37, .inl (k_38, 6000, .inl (fun _ => 0)))] := hD
  have hP9 := hP.sub (ws' := [(g0, .inr (4, [.ref q_1, .ref q_3, .ref q_5, .ref q_7, .ref q_9, .ref q_11, .ref q_13, .ref q_15, .ref q_17, .ref q_19, .ref q_21, .ref q_23, .ref q_25, .ref q_27, .ref q_29, .ref q_31, .ref q_33, .ref q_35, .int 0, .ref q_37, .int 0, .int 0, .int 0])), (q_1, .inl (k_2, 4, .inl (fun _ => 0))), (q_3, .inl (k_4, 4, .inl (fun _ => 0))), (q_5, .inl (k_6, 4, .inl (fun _ => 0))), (q_7, .inl (k_8, 4, .inl (fun _ => 0))), (q_9, .inl (k_10, 4, .inl (fun _ => 0))), (q_13, .inl (k_14, 4, .inl (fun _ => 0))), (q_23, .inl (k_24, 4, .inl (fun _ => 0))), (q_25, .inl (k_26, 4, .inl (fun _ => 0))), (q_27, .inl (k_28, 4, .inl (fun _ => 0))), (q_29, .inl (k_30, 4, .inl (fun _ => 0))), (q_31, .inl (k_32, 4, .inl (fun _ => 0))), (q_33, .inl (k_34, 4, .inl (fun _ => 0)))]) [0, 1, 2, 3, 4, 5, 7, 12, 13, 14, 15, 16, 17] rfl
  have hD9 := hD.sub (ws' := [(g0, .inr (4, [.ref q_1, .ref q_3, .ref q_5, .ref q_7, .ref q_9, .ref q_11, .ref q_13, .ref q_15, .ref q_17, .ref q_19, .ref q_21, .ref q_23, .ref q_25, .ref q_27, .ref q_29, .ref q_31, .ref q_33, .ref q_35, .int 0, .ref q_37, .int 0, .int 0, .int 0])), (q_1, .inl (k_2, 4, .inl (fun _ => 0))), (q_3, .inl (k_4, 4, .inl (fun _ => 0))), (q_5, .inl (k_6, 4, .inl (fun _ => 0))), (q_7, .inl (k_8, 4, .inl (fun _ => 0))), (q_9, .inl (k_10, 4, .inl (fun _ => 0))), (q_13, .inl (k_14, 4, .inl (fun _ => 0))), (q_23, .inl (k_24, 4, .inl (fun _ => 0))), (q_25, .inl (k_26, 4, .inl (fun _ => 0))), (q_27, .inl (k_28, 4, .inl (fun _ => 0))), (q_29, .inl (k_30, 4, .inl (fun _ => 0))), (q_31, .inl (k_32, 4, .inl (fun _ => 0))), (q_33, .inl (k_34, 4, .inl (fun _ => 0)))]) [0, 1, 2, 3, 4, 5, 7, 12, 13, 14, 15, 16, 17] (by decide) rfl
  have hK9 := hK.sub (tys' := [(k_2, .boolean), (k_4, .boolean), (k_6, .int), (k_8, .int), (k_10, .int), (k_14, .int), (k_24, .int), (k_26, .int), (k_28, .int), (k_30, .int), (k_32, .int), (k_34, .boolean)]) [0, 1, 2, 3, 4, 6, 11, 12, 13, 14, 15, 16] rfl
  refine W.widen (k := 19) (n := 52048) (by omega) (by omega) ?_
  exact W.vret hx hb hr (fun t ht hW => ⟨⟨(), rfl, trivial, q_1, q_3, q_5, q_7, q_9, q_11, q_13, q_15, q_17, q_19, q_21, q_23, q_25, q_27, q_29, q_31, q_33, q_35, q_37, k_2, k_4, k_6, k_8, k_10, k_14, k_24, k_26, k_28, k_30, k_32, k_34, by rw [ht]; exact hP9, va_K.moved hW.alike hK9, hD9⟩, hS.F ht⟩) hS.2.2 dX5_init_156
end
section
set_option maxHeartbeats 4000000 in
set_option maxRecDepth 100000 in
theorem kX5_isBegun (l : Launch) (dC : Nat → ClassId) (dI : Nat → Nat → Nat) (g0 g1 g2 g3 g4 g5 g6 g7 g8 g9 g10 g11 g12 g13 g14 g15 g16 g17 g18 g19 : Nat) (pv : Int32) (p1 : Int32) (p2 : Int32) (p3 : Int32) (p4 : Int32) (p5 : Int32) : Met l yX5_isBegun wsX5_isBegun ({ frames := 0, cells := 0, slots := 0, locals := 0 } : Room) (va_Pc [.ref g0, .int 0, .int p1, .int p2, .int p3, .int p4, .int p5] (fun U => va_P (dC, dI) vwCl [(g0, .inr (4, [.ref g1, .ref g2, .ref g3, .ref g4, .ref g5, .ref g6, .ref g7, .ref g8, .ref g9, .ref g10, .ref g11, .ref g12, .ref g13, .ref g14, .ref g15, .ref g16, .ref g17, .ref g18, .int 0, .ref g19, .int 0, .int pv, .int 0]))] U.heap ∧ va_K (dC, dI) vwCl [] U)) (vp_Si (fun r => r = 1)) 0 0 (fun _ => False) := by
  refine Met.ofW (cc := cX5_isBegun) (maxL := 10) (ret := (some .boolean)) (by decide) rfl ?_
  intro p e s m args below meth c s₁ B hml hv
  obtain ⟨rfl, hP, hK⟩ := hv
  have hx := B.exec
  have hb := B.bytes
  have hr := B.returns
  have hts := atoms_spec (ws := wsX5_isBegun) B.pre
  have hown : s.vm.findClass RX5 = some m.cls := findClass_of_methodNamed B.named
  have hlocks := B.notSynchronized
  have hl := lv_entry ([.ref g0, .int 0, .int p1, .int p2, .int p3, .int p4, .int p5]) (n := 10) (Nat.le_of_ble_eq_true rfl)
  rw [lg_entry_eq]
  generalize (lg_sl ([.ref g0, .int 0, .int p1, .int p2, .int p3, .int p4, .int p5]) ++ List.replicate (10 - (lg_sl ([.ref g0, .int 0, .int p1, .int p2, .int p3, .int p4, .int p5])).length) Slot.unset).toArray = ls at hl ⊢
  have hl : lv_has ls 10 [(0, .ref g0), (1, .int 0), (2, .int p1), (3, .int p2), (4, .int p3), (5, .int p4), (6, .int p5)] := hl
  refine lv_iconst (v := 1) hx hb dX5_isBegun_0 (by decide) ?_
  refine lv_istore (lv' := [(7, .int 1), (0, .ref g0), (1, .int 0), (2, .int p1), (3, .int p2), (4, .int p3), (5, .int p4), (6, .int p5)]) hx hb dX5_isBegun_1 hl (by decide) rfl (fun ls hl => ?_)
  refine lv_iconst (v := 0) hx hb dX5_isBegun_3 (by decide) ?_
  refine lv_istore (lv' := [(8, .int 0), (7, .int 1), (0, .ref g0), (1, .int 0), (2, .int p1), (3, .int p2), (4, .int p3), (5, .int p4), (6, .int p5)]) hx hb dX5_isBegun_4 hl (by decide) rfl (fun ls hl => ?_)
  refine lv_iload hx hb dX5_isBegun_6 (lv_at hl 0 rfl) ?_
  refine lv_iload_n hx hb dX5_isBegun_8 rfl (lv_at hl 3 rfl) ?_
  refine lv_icmp_ge (tgt := 83) hx hb dX5_isBegun_9 (by decide) (fun _ => ?_) (fun c_1 => False.elim (by revert c_1; decide))
  refine lv_iload hx hb dX5_isBegun_83 (lv_at hl 1 rfl) ?_
  exact W.zret (v := 1) hx hb hr rfl (fun t ht hW => ⟨1, rfl, rfl, ht⟩) (fun q h => by cases h) dX5_isBegun_85
end
section
set_option maxHeartbeats 4000000 in
set_option maxRecDepth 100000 in
theorem kX5_findForm (l : Launch) (dC : Nat → ClassId) (dI : Nat → Nat → Nat) (g0 g1 g2 g3 g4 g5 g6 g7 g8 g9 g10 g11 g12 g13 g14 g15 g16 g17 g18 g19 : Nat) (sz : Nat) : Met l yX5_findForm wsX5_findForm ({ frames := 1, cells := 0, slots := 0, locals := 29 } : Room) (va_Pc [.ref g0, .int 0, .int 0] (fun U => U.heap.size = sz ∧ va_P (dC, dI) vwCl [(g0, .inr (4, [.ref g1, .ref g2, .ref g3, .ref g4, .ref g5, .ref g6, .ref g7, .ref g8, .ref g9, .ref g10, .ref g11, .ref g12, .ref g13, .ref g14, .ref g15, .ref g16, .ref g17, .ref g18, .int 0, .ref g19, .int 0, .int 0, .int 0]))] U.heap ∧ va_K (dC, dI) vwCl [] U ∧ va_D (fun _ => True) [(g0, .inr (4, [.ref g1, .ref g2, .ref g3, .ref g4, .ref g5, .ref g6, .ref g7, .ref g8, .ref g9, .ref g10, .ref g11, .ref g12, .ref g13, .ref g14, .ref g15, .ref g16, .ref g17, .ref g18, .int 0, .ref g19, .int 0, .int 0, .int 0]))])) (va_Qi (fun (r : Int32) (_ : Unit) => r = 0) (fun _ t => va_P (dC, dI) vwCl [(g0, .inr (4, [.ref g1, .ref g2, .ref g3, .ref g4, .ref g5, .ref g6, .ref g7, .ref g8, .ref g9, .ref g10, .ref g11, .ref g12, .ref g13, .ref g14, .ref g15, .ref g16, .ref g17, .ref g18, .int 0, .ref g19, .int 0, .int 6, .int 0]))] t.heap ∧ va_K (dC, dI) vwCl [] t ∧ va_D (va_A [(g0, .inr (4, [.ref g1, .ref g2, .ref g3, .ref g4, .ref g5, .ref g6, .ref g7, .ref g8, .ref g9, .ref g10, .ref g11, .ref g12, .ref g13, .ref g14, .ref g15, .ref g16, .ref g17, .ref g18, .int 0, .ref g19, .int 0, .int 0, .int 0]))] sz) [(g0, .inr (4, [.ref g1, .ref g2, .ref g3, .ref g4, .ref g5, .ref g6, .ref g7, .ref g8, .ref g9, .ref g10, .ref g11, .ref g12, .ref g13, .ref g14, .ref g15, .ref g16, .ref g17, .ref g18, .int 0, .ref g19, .int 0, .int 6, .int 0]))]) (va_A [(g0, .inr (4, [.ref g1, .ref g2, .ref g3, .ref g4, .ref g5, .ref g6, .ref g7, .ref g8, .ref g9, .ref g10, .ref g11, .ref g12, .ref g13, .ref g14, .ref g15, .ref g16, .ref g17, .ref g18, .int 0, .ref g19, .int 0, .int 0, .int 0]))] sz)) 0 0 (va_A [(g0, .inr (4, [.ref g1, .ref g2, .ref g3, .ref g4, .ref g5, .ref g6, .ref g7, .ref g8, .ref g9, .ref g10, .ref g11, .ref g12, .ref g13, .ref g14, .ref g15, .ref g16, .ref g17, .ref g18, .int 0, .ref g19, .int 0, .int 0, .int 0]))] sz) := by
  refine Met.ofW (cc := cX5_findForm) (maxL := 5) (ret := (some .int)) (by decide) rfl ?_
  intro p e s m args below meth c s₁ B hml hv
  obtain ⟨rfl, hsz, hP, hK, hD0⟩ := hv
  have hx := B.exec
  have hb := B.bytes
  have hr := B.returns
  have hts := atoms_spec (ws := wsX5_findForm) B.pre
  have hown : s.vm.findClass RX5 = some m.cls := findClass_of_methodNamed B.named
  have hlocks := B.notSynchronized
  subst hsz
  have hD := hD0.self (sz := s.heap.size)
  generalize hAe : va_A [(g0, .inr (4, [.ref g1, .ref g2, .ref g3, .ref g4, .ref g5, .ref g6, .ref g7, .ref g8, .ref g9, .ref g10, .ref g11, .ref g12, .ref g13, .ref g14, .ref g15, .ref g16, .ref g17, .ref g18, .int 0, .ref g19, .int 0, .int 0, .int 0]))] s.heap.size = A at hD ⊢
  have hA : ∀ q : Nat, s.heap.size ≤ q → A q := fun q h => by rw [← hAe]; exact Or.inr h
  have hS : va_S A s.heap s.heap [] := va_S.rf
  have hl := lv_entry ([.ref g0, .int 0, .int 0]) (n := 5) (Nat.le_of_ble_eq_true rfl)
  rw [lg_entry_eq]
  generalize (lg_sl ([.ref g0, .int 0, .int 0]) ++ List.replicate (5 - (lg_sl ([.ref g0, .int 0, .int 0])).length) Slot.unset).toArray = ls at hl ⊢
  have hl : lv_has ls 5 [(0, .ref g0), (1, .int 0), (2, .int 0)] := hl
  refine lv_aload_n hx hb dX5_findForm_0 rfl (lv_at hl 0 rfl) ?_
  refine lv_bipush (v := 6) hx hb dX5_findForm_1 (by decide +kernel) ?_
  refine va_put (D := (dC, dI)) (ci := 4) (v := .int 6) (ty := .int) (C := RX5) (T := TX5) (N := 23) hx hb hts (by decide +kernel) tyX5 tyX5_ok nmX5 hown hK hP hD hS 0 rfl rfl 21 (by decide) (hts (.fieldLink RX5 86 "SignFormsModel" "partValue" "I") (by decide +kernel)) (fun _ h9 => h9) rfl (by decide +kernel) rfl rfl (Nat.le_of_ble_eq_true rfl) dX5_findForm_3 (fun H locs hP hD hS => ?_)
  have hP : va_P (dC, dI) vwCl [(g0, .inr (4, [.ref g1, .ref g2, .ref g3, .ref g4, .ref g5, .ref g6, .ref g7, .ref g8, .ref g9, .ref g10, .ref g11, .ref g12, .ref g13, .ref g14, .ref g15, .ref g16, .ref g17, .ref g18, .int 0, .ref g19, .int 0, .int 6, .int 0]))] H := hP
  have hD : va_D A [(g0, .inr (4, [.ref g1, .ref g2, .ref g3, .ref g4, .ref g5, .ref g6, .ref g7, .ref g8, .ref g9, .ref g10, .ref g11, .ref g12, .ref g13, .ref g14, .ref g15, .ref g16, .ref g17, .ref g18, .int 0, .ref g19, .int 0, .int 6, .int 0]))] := hD
  refine lv_iload_n hx hb dX5_findForm_6 rfl (lv_at hl 1 rfl) ?_
  refine lv_iconst (v := 3) hx hb dX5_findForm_7 (by decide) ?_
  refine lv_icmp_lt (tgt := 37) hx hb dX5_findForm_8 (by decide) (fun _ => ?_) (fun c_1 => False.elim (by revert c_1; decide))
  refine lv_iload_n hx hb dX5_findForm_37 rfl (lv_at hl 1 rfl) ?_
  refine lv_iconst (v := 4) hx hb dX5_findForm_38 (by decide) ?_
  refine lv_icmp_lt (tgt := 66) hx hb dX5_findForm_39 (by decide) (fun _ => ?_) (fun c_2 => False.elim (by revert c_2; decide))
  refine lv_iload_n hx hb dX5_findForm_66 rfl (lv_at hl 1 rfl) ?_
  refine lv_iconst (v := 4) hx hb dX5_findForm_67 (by decide) ?_
  refine lv_icmp_lt (tgt := 95) hx hb dX5_findForm_68 (by decide) (fun _ => ?_) (fun c_3 => False.elim (by revert c_3; decide))
  refine lv_iload_n hx hb dX5_findForm_95 rfl (lv_at hl 1 rfl) ?_
  refine lv_iconst (v := 2) hx hb dX5_findForm_96 (by decide) ?_
  refine lv_icmp_lt (tgt := 124) hx hb dX5_findForm_97 (by decide) (fun _ => ?_) (fun c_4 => False.elim (by revert c_4; decide))
  refine lv_iload_n hx hb dX5_findForm_124 rfl (lv_at hl 1 rfl) ?_
  refine lv_iconst (v := 2) hx hb dX5_findForm_125 (by decide) ?_
  refine lv_icmp_lt (tgt := 150) hx hb dX5_findForm_126 (by decide) (fun _ => ?_) (fun c_5 => False.elim (by revert c_5; decide))
  refine lv_iconst (v := 0) hx hb dX5_findForm_150 (by decide) ?_
  refine lv_istore_n (lv' := [(3, .int 0), (0, .ref g0), (1, .int 0), (2, .int 0)]) hx hb dX5_findForm_151 rfl hl (by decide) rfl (fun ls hl => ?_)
  refine lv_iload_n hx hb dX5_findForm_152 rfl (lv_at hl 0 rfl) ?_
  refine lv_if_eq (tgt := 184) hx hb dX5_findForm_153 (by decide) (fun _ => ?_) (fun c_6 => False.elim (by revert c_6; decide))
  refine lv_aload_n hx hb dX5_findForm_184 rfl (lv_at hl 1 rfl) ?_
  refine lv_iload_n hx hb dX5_findForm_185 rfl (lv_at hl 2 rfl) ?_
  refine lv_sipush (v := 239) hx hb dX5_findForm_186 (by decide +kernel) ?_
  refine lv_sipush (v := 187) hx hb dX5_findForm_189 (by decide +kernel) ?_
  refine lv_sipush (v := 191) hx hb dX5_findForm_192 (by decide +kernel) ?_
  refine lv_iconst (v := 0) hx hb dX5_findForm_195 (by decide) ?_
  refine lv_iconst (v := 3) hx hb dX5_findForm_196 (by decide) ?_
  have hPc := hP.sub (ws' := [(g0, .inr (4, [.ref g1, .ref g2, .ref g3, .ref g4, .ref g5, .ref g6, .ref g7, .ref g8, .ref g9, .ref g10, .ref g11, .ref g12, .ref g13, .ref g14, .ref g15, .ref g16, .ref g17, .ref g18, .int 0, .ref g19, .int 0, .int 6, .int 0]))]) [0] rfl
  have hKc := hK.sub (tys' := []) [] rfl
  refine vp_callSi (W.runV (As := [.int 0, .int 239, .int 187, .int 191, .int 0, .int 3]) (rest := []) ⟨hx, hb, hml, hown, hts⟩ (kX5_isBegun l dC dI g0 g1 g2 g3 g4 g5 g6 g7 g8 g9 g10 g11 g12 g13 g14 g15 g16 g17 g18 g19 6 239 187 191 0 3) (cwV 6 hts gX5_findForm_X5_isBegun rfl rfl rfl (by decide +kernel) ⟨Nat.le_of_ble_eq_true rfl, Nat.le_of_ble_eq_true rfl⟩) ⟨fun a U g mk q => by obtain ⟨q0, qP, qK⟩ := q; exact ⟨q0, qP, va_K.moved (u := U) (U := U.calling g mk a) (Vm.Alike.refl U.vm) qK⟩, va_recv hKc hPc (ci := 4) (q0 := 0) rfl rfl, fun U hU hW => ⟨rfl, by rw [hU]; exact hPc, va_K.moved hW.alike hKc⟩⟩ rfl rfl hl.1 rfl (lv_room (Nat.le_of_ble_eq_true rfl)) dX5_findForm_197 ⟨Nat.le_of_ble_eq_true rfl, Nat.le_of_ble_eq_true rfl⟩) (fun r_7 hwr_7 => ?_)
  subst hwr_7
  refine lv_if_ne (tgt := 254) hx hb dX5_findForm_200 (by decide) (fun _ => ?_) (fun c_8 => False.elim (by revert c_8; decide))
  refine lv_iconst (v := 1) hx hb dX5_findForm_254 (by decide) ?_
  refine lv_goto (tgt := 259) hx hb dX5_findForm_255 (by decide) ?_
  refine lv_istore (lv' := [(4, .int 1), (3, .int 0), (0, .ref g0), (1, .int 0), (2, .int 0)]) hx hb dX5_findForm_259 hl (by decide) rfl (fun ls hl => ?_)
  refine lv_iload_n hx hb dX5_findForm_261 rfl (lv_at hl 4 rfl) ?_
  refine lv_if_ne (tgt := 270) hx hb dX5_findForm_262 (by decide) (fun c_9 => False.elim (by revert c_9; decide)) (fun _ => ?_)
  refine lv_iload hx hb dX5_findForm_265 (lv_at hl 0 rfl) ?_
  refine lv_if_ne (tgt := 275) hx hb dX5_findForm_267 (by decide) (fun _ => ?_) (fun c_10 => False.elim (by revert c_10; decide))
  refine lv_iconst (v := 0) hx hb dX5_findForm_275 (by decide) ?_
  have hP9 := hP.sub (ws' := [(g0, .inr (4, [.ref g1, .ref g2, .ref g3, .ref g4, .ref g5, .ref g6, .ref g7, .ref g8, .ref g9, .ref g10, .ref g11, .ref g12, .ref g13, .ref g14, .ref g15, .ref g16, .ref g17, .ref g18, .int 0, .ref g19, .int 0, .int 6, .int 0]))]) [0] rfl
  have hD9 := hD.sub (ws' := [(g0, .inr (4, [.ref g1, .ref g2, .ref g3, .ref g4, .ref g5, .ref g6, .ref g7, .ref g8, .ref g9, .ref g10, .ref g11, .ref g12, .ref g13, .ref g14, .ref g15, .ref g16, .ref g17, .ref g18, .int 0, .ref g19, .int 0, .int 6, .int 0]))]) [0] (by decide) rfl
  have hK9 := hK.sub (tys' := []) [] rfl
  exact W.iret (v := 0) hx hb hr (fun t ht hW => ⟨⟨0, (), rfl, rfl, by rw [ht]; exact hP9, va_K.moved hW.alike hK9, hD9⟩, hS.F ht⟩) hS.2.2 dX5_findForm_276
end
section
set_option maxHeartbeats 4000000 in
set_option maxRecDepth 100000 in
theorem kX5_findAll (l : Launch) (dC : Nat → ClassId) (dI : Nat → Nat → Nat) (g0 g1 g2 g3 g4 g5 g6 g7 g8 g9 g10 g11 g12 g13 g14 g15 g16 g17 g18 g19 : Nat) (kG1 kG2 kG3 kG4 kG5 kG6 kG7 kG8 kG9 kG10 kG11 kG12 : ClassId) (sz : Nat) (p0 p1 p2 : Int32) (hs : 0 ≤ p0.toInt ∧ p0.toInt < 4) : Met l yX5_findAll wsX5_findAll ({ frames := 2, cells := 0, slots := 0, locals := 53 } : Room) (va_Pc [.ref g0, .int p0] (fun U => U.heap.size = sz ∧ va_P (dC, dI) vwCl [(g0, .inr (4, [.ref g1, .ref g2, .ref g3, .ref g4, .ref g5, .ref g6, .ref g7, .ref g8, .ref g9, .ref g10, .ref g11, .ref g12, .ref g13, .ref g14, .ref g15, .ref g16, .ref g17, .ref g18, .int 0, .ref g19, .int 0, .int 0, .int 0])), (g1, .inl (kG1, 4, .inl (upd (fun _ => 0) (p0 : Int32).toNatClampNeg (vp_nar .boolean 1)))), (g2, .inl (kG2, 4, .inl (upd (fun _ => 0) (p0 : Int32).toNatClampNeg (vp_nar .boolean 0)))), (g3, .inl (kG3, 4, .inl (upd (fun _ => 0) (p0 : Int32).toNatClampNeg p1))), (g4, .inl (kG4, 4, .inl (fun _ => 0))), (g5, .inl (kG5, 4, .inl (upd (fun _ => 0) (p0 : Int32).toNatClampNeg p2))), (g7, .inl (kG6, 4, .inl (upd (fun _ => 0) (p0 : Int32).toNatClampNeg 0))), (g12, .inl (kG7, 4, .inl (fun _ => 0))), (g13, .inl (kG8, 4, .inl (fun _ => 0))), (g14, .inl (kG9, 4, .inl (fun _ => 0))), (g15, .inl (kG10, 4, .inl (fun _ => 0))), (g16, .inl (kG11, 4, .inl (fun _ => 0))), (g17, .inl (kG12, 4, .inl (fun _ => 0)))] U.heap ∧ va_K (dC, dI) vwCl [(kG1, .boolean), (kG2, .boolean), (kG3, .int), (kG4, .int), (kG5, .int), (kG6, .int), (kG7, .int), (kG8, .int), (kG9, .int), (kG10, .int), (kG11, .int), (kG12, .boolean)] U ∧ va_D (fun _ => True) [(g0, .inr (4, [.ref g1, .ref g2, .ref g3, .ref g4, .ref g5, .ref g6, .ref g7, .ref g8, .ref g9, .ref g10, .ref g11, .ref g12, .ref g13, .ref g14, .ref g15, .ref g16, .ref g17, .ref g18, .int 0, .ref g19, .int 0, .int 0, .int 0])), (g1, .inl (kG1, 4, .inl (upd (fun _ => 0) (p0 : Int32).toNatClampNeg (vp_nar .boolean 1)))), (g2, .inl (kG2, 4, .inl (upd (fun _ => 0) (p0 : Int32).toNatClampNeg (vp_nar .boolean 0)))), (g3, .inl (kG3, 4, .inl (upd (fun _ => 0) (p0 : Int32).toNatClampNeg p1))), (g4, .inl (kG4, 4, .inl (fun _ => 0))), (g5, .inl (kG5, 4, .inl (upd (fun _ => 0) (p0 : Int32).toNatClampNeg p2))), (g7, .inl (kG6, 4, .inl (upd (fun _ => 0) (p0 : Int32).toNatClampNeg 0))), (g12, .inl (kG7, 4, .inl (fun _ => 0))), (g13, .inl (kG8, 4, .inl (fun _ => 0))), (g14, .inl (kG9, 4, .inl (fun _ => 0))), (g15, .inl (kG10, 4, .inl (fun _ => 0))), (g16, .inl (kG11, 4, .inl (fun _ => 0))), (g17, .inl (kG12, 4, .inl (fun _ => 0)))])) (va_Qv (fun (_ : Unit) => True) (fun _ _ => True) (va_A [(g0, .inr (4, [.ref g1, .ref g2, .ref g3, .ref g4, .ref g5, .ref g6, .ref g7, .ref g8, .ref g9, .ref g10, .ref g11, .ref g12, .ref g13, .ref g14, .ref g15, .ref g16, .ref g17, .ref g18, .int 0, .ref g19, .int 0, .int 0, .int 0])), (g1, .inl (kG1, 4, .inl (upd (fun _ => 0) (p0 : Int32).toNatClampNeg (vp_nar .boolean 1)))), (g2, .inl (kG2, 4, .inl (upd (fun _ => 0) (p0 : Int32).toNatClampNeg (vp_nar .boolean 0)))), (g3, .inl (kG3, 4, .inl (upd (fun _ => 0) (p0 : Int32).toNatClampNeg p1))), (g4, .inl (kG4, 4, .inl (fun _ => 0))), (g5, .inl (kG5, 4, .inl (upd (fun _ => 0) (p0 : Int32).toNatClampNeg p2))), (g7, .inl (kG6, 4, .inl (upd (fun _ => 0) (p0 : Int32).toNatClampNeg 0))), (g12, .inl (kG7, 4, .inl (fun _ => 0))), (g13, .inl (kG8, 4, .inl (fun _ => 0))), (g14, .inl (kG9, 4, .inl (fun _ => 0))), (g15, .inl (kG10, 4, .inl (fun _ => 0))), (g16, .inl (kG11, 4, .inl (fun _ => 0))), (g17, .inl (kG12, 4, .inl (fun _ => 0)))] sz)) 0 0 (va_A [(g0, .inr (4, [.ref g1, .ref g2, .ref g3, .ref g4, .ref g5, .ref g6, .ref g7, .ref g8, .ref g9, .ref g10, .ref g11, .ref g12, .ref g13, .ref g14, .ref g15, .ref g16, .ref g17, .ref g18, .int 0, .ref g19, .int 0, .int 0, .int 0])), (g1, .inl (kG1, 4, .inl (upd (fun _ => 0) (p0 : Int32).toNatClampNeg (vp_nar .boolean 1)))), (g2, .inl (kG2, 4, .inl (upd (fun _ => 0) (p0 : Int32).toNatClampNeg (vp_nar .boolean 0)))), (g3, .inl (kG3, 4, .inl (upd (fun _ => 0) (p0 : Int32).toNatClampNeg p1))), (g4, .inl (kG4, 4, .inl (fun _ => 0))), (g5, .inl (kG5, 4, .inl (upd (fun _ => 0) (p0 : Int32).toNatClampNeg p2))), (g7, .inl (kG6, 4, .inl (upd (fun _ => 0) (p0 : Int32).toNatClampNeg 0))), (g12, .inl (kG7, 4, .inl (fun _ => 0))), (g13, .inl (kG8, 4, .inl (fun _ => 0))), (g14, .inl (kG9, 4, .inl (fun _ => 0))), (g15, .inl (kG10, 4, .inl (fun _ => 0))), (g16, .inl (kG11, 4, .inl (fun _ => 0))), (g17, .inl (kG12, 4, .inl (fun _ => 0)))] sz) := by
  refine Met.ofW (cc := cX5_findAll) (maxL := 6) (ret := none) (by decide) rfl ?_
  intro p e s m args below meth c s₁ B hml hv
  obtain ⟨rfl, hsz, hP, hK, hD0⟩ := hv
  have hx := B.exec
  have hb := B.bytes
  have hr := B.returns
  have hts := atoms_spec (ws := wsX5_findAll) B.pre
  have hown : s.vm.findClass RX5 = some m.cls := findClass_of_methodNamed B.named
  have hlocks := B.notSynchronized
  subst hsz
  have hD := hD0.self (sz := s.heap.size)
  generalize hAe : va_A [(g0, .inr (4, [.ref g1, .ref g2, .ref g3, .ref g4, .ref g5, .ref g6, .ref g7, .ref g8, .ref g9, .ref g10, .ref g11, .ref g12, .ref g13, .ref g14, .ref g15, .ref g16, .ref g17, .ref g18, .int 0, .ref g19, .int 0, .int 0, .int 0])), (g1, .inl (kG1, 4, .inl (upd (fun _ => 0) (p0 : Int32).toNatClampNeg (vp_nar .boolean 1)))), (g2, .inl (kG2, 4, .inl (upd (fun _ => 0) (p0 : Int32).toNatClampNeg (vp_nar .boolean 0)))), (g3, .inl (kG3, 4, .inl (upd (fun _ => 0) (p0 : Int32).toNatClampNeg p1))), (g4, .inl (kG4, 4, .inl (fun _ => 0))), (g5, .inl (kG5, 4, .inl (upd (fun _ => 0) (p0 : Int32).toNatClampNeg p2))), (g7, .inl (kG6, 4, .inl (upd (fun _ => 0) (p0 : Int32).toNatClampNeg 0))), (g12, .inl (kG7, 4, .inl (fun _ => 0))), (g13, .inl (kG8, 4, .inl (fun _ => 0))), (g14, .inl (kG9, 4, .inl (fun _ => 0))), (g15, .inl (kG10, 4, .inl (fun _ => 0))), (g16, .inl (kG11, 4, .inl (fun _ => 0))), (g17, .inl (kG12, 4, .inl (fun _ => 0)))] s.heap.size = A at hD ⊢
  have hA : ∀ q : Nat, s.heap.size ≤ q → A q := fun q h => by rw [← hAe]; exact Or.inr h
  have hS : va_S A s.heap s.heap [] := va_S.rf
  have hl := lv_entry ([.ref g0, .int p0]) (n := 6) (Nat.le_of_ble_eq_true rfl)
  rw [lg_entry_eq]
  generalize (lg_sl ([.ref g0, .int p0]) ++ List.replicate (6 - (lg_sl ([.ref g0, .int p0])).length) Slot.unset).toArray = ls at hl ⊢
  have hl : lv_has ls 6 [(0, .ref g0), (1, .int p0)] := hl
  refine lv_aload_n hx hb dX5_findAll_0 rfl (lv_at hl 0 rfl) ?_
  refine va_get (D := (dC, dI)) (ci := 4) (v := .ref g7) (C := RX5) (T := TX5) (N := 23) hx hb hts (by decide +kernel) hown hK hP 0 rfl rfl 6 (by decide) (hts (.fieldLink RX5 29 "SignFormsModel" "many" "[I") (by decide +kernel)) (fun _ h9 => h9) rfl dX5_findAll_1 ?_
  refine lv_iload_n hx hb dX5_findAll_4 rfl (lv_at hl 1 rfl) ?_
  refine va_iald hx hb hK hP 6 5 rfl rfl (vp_in_iff.mpr (by omega)) dX5_findAll_5 ?_
  refine W.eq (g2 := F0 m 6 ls [.int 0]) (by rw [pk_us]) ?_
  refine lv_istore_n (lv' := [(2, .int 0), (0, .ref g0), (1, .int p0)]) hx hb dX5_findAll_6 rfl hl (by decide) rfl (fun ls hl => ?_)
  refine lv_iconst (v := 0) hx hb dX5_findAll_7 (by decide) ?_
  refine lv_istore_n (lv' := [(3, .int 0), (2, .int 0), (0, .ref g0), (1, .int p0)]) hx hb dX5_findAll_8 rfl hl (by decide) rfl (fun ls hl => ?_)
  refine lv_iload_n hx hb dX5_findAll_9 rfl (lv_at hl 0 rfl) ?_
  refine lv_iload_n hx hb dX5_findAll_10 rfl (lv_at hl 1 rfl) ?_
  refine lv_icmp_ge (tgt := 38) hx hb dX5_findAll_11 (by decide) (fun _ => ?_) (fun c_1 => False.elim (by revert c_1; decide))
  refine lv_aload_n hx hb dX5_findAll_38 rfl (lv_at hl 2 rfl) ?_
  refine va_get (D := (dC, dI)) (ci := 4) (v := .ref g12) (C := RX5) (T := TX5) (N := 23) hx hb hts (by decide +kernel) hown hK hP 0 rfl rfl 11 (by decide) (hts (.fieldLink RX5 44 "SignFormsModel" "signs" "[I") (by decide +kernel)) (fun _ h9 => h9) rfl dX5_findAll_39 ?_
  refine lv_iload_n hx hb dX5_findAll_42 rfl (lv_at hl 3 rfl) ?_
  refine lv_iconst (v := 0) hx hb dX5_findAll_43 (by decide) ?_
  refine va_iast hx hb hK hP hD hS 7 6 rfl rfl (vp_in_iff.mpr (by omega)) dX5_findAll_44 (fun H locs hP hD hS => ?_)
  have hP : va_P (dC, dI) vwCl [(g0, .inr (4, [.ref g1, .ref g2, .ref g3, .ref g4, .ref g5, .ref g6, .ref g7, .ref g8, .ref g9, .ref g10, .ref g11, .ref g12, .ref g13, .ref g14, .ref g15, .ref g16, .ref g17, .ref g18, .int 0, .ref g19, .int 0, .int 0, .int 0])), (g1, .inl (kG1, 4, .inl (upd (fun _ => 0) (p0 : Int32).toNatClampNeg (vp_nar .boolean 1)))), (g2, .inl (kG2, 4, .inl (upd (fun _ => 0) (p0 : Int32).toNatClampNeg (vp_nar .boolean 0)))), (g3, .inl (kG3, 4, .inl (upd (fun _ => 0) (p0 : Int32).toNatClampNeg p1))), (g4, .inl (kG4, 4, .inl (fun _ => 0))), (g5, .inl (kG5, 4, .inl (upd (fun _ => 0) (p0 : Int32).toNatClampNeg p2))), (g7, .inl (kG6, 4, .inl (upd (fun _ => 0) (p0 : Int32).toNatClampNeg 0))), (g12, .inl (kG7, 4, .inl (upd (fun _ => 0) (p0 : Int32).toNatClampNeg 0))), (g13, .inl (kG8, 4, .inl (fun _ => 0))), (g14, .inl (kG9, 4, .inl (fun _ => 0))), (g15, .inl (kG10, 4, .inl (fun _ => 0))), (g16, .inl (kG11, 4, .inl (fun _ => 0))), (g17, .inl (kG12, 4, .inl (fun _ => 0)))] H := hP
  have hD : va_D A [(g0, .inr (4, [.ref g1, .ref g2, .ref g3, .ref g4, .ref g5, .ref g6, .ref g7, .ref g8, .ref g9, .ref g10, .ref g11, .ref g12, .ref g13, .ref g14, .ref g15, .ref g16, .ref g17, .ref g18, .int 0, .ref g19, .int 0, .int 0, .int 0])), (g1, .inl (kG1, 4, .inl (upd (fun _ => 0) (p0 : Int32).toNatClampNeg (vp_nar .boolean 1)))), (g2, .inl (kG2, 4, .inl (upd (fun _ => 0) (p0 : Int32).toNatClampNeg (vp_nar .boolean 0)))), (g3, .inl (kG3, 4, .inl (upd (fun _ => 0) (p0 : Int32).toNatClampNeg p1))), (g4, .inl (kG4, 4, .inl (fun _ => 0))), (g5, .inl (kG5, 4, .inl (upd (fun _ => 0) (p0 : Int32).toNatClampNeg p2))), (g7, .inl (kG6, 4, .inl (upd (fun _ => 0) (p0 : Int32).toNatClampNeg 0))), (g12, .inl (kG7, 4, .inl (upd (fun _ => 0) (p0 : Int32).toNatClampNeg 0))), (g13, .inl (kG8, 4, .inl (fun _ => 0))), (g14, .inl (kG9, 4, .inl (fun _ => 0))), (g15, .inl (kG10, 4, .inl (fun _ => 0))), (g16, .inl (kG11, 4, .inl (fun _ => 0))), (g17, .inl (kG12, 4, .inl (fun _ => 0)))] := hD
  refine lv_aload_n hx hb dX5_findAll_45 rfl (lv_at hl 2 rfl) ?_
  refine va_get (D := (dC, dI)) (ci := 4) (v := .ref g13) (C := RX5) (T := TX5) (N := 23) hx hb hts (by decide +kernel) hown hK hP 0 rfl rfl 12 (by decide) (hts (.fieldLink RX5 47 "SignFormsModel" "subparts" "[I") (by decide +kernel)) (fun _ h9 => h9) rfl dX5_findAll_46 ?_
  refine lv_iload_n hx hb dX5_findAll_49 rfl (lv_at hl 3 rfl) ?_
  refine lv_iconst (v := 0) hx hb dX5_findAll_50 (by decide) ?_
  refine va_iast hx hb hK hP hD hS 8 7 rfl rfl (vp_in_iff.mpr (by omega)) dX5_findAll_51 (fun H locs hP hD hS => ?_)
  have hP : va_P (dC, dI) vwCl [(g0, .inr (4, [.ref g1, .ref g2, .ref g3, .ref g4, .ref g5, .ref g6, .ref g7, .ref g8, .ref g9, .ref g10, .ref g11, .ref g12, .ref g13, .ref g14, .ref g15, .ref g16, .ref g17, .ref g18, .int 0, .ref g19, .int 0, .int 0, .int 0])), (g1, .inl (kG1, 4, .inl (upd (fun _ => 0) (p0 : Int32).toNatClampNeg (vp_nar .boolean 1)))), (g2, .inl (kG2, 4, .inl (upd (fun _ => 0) (p0 : Int32).toNatClampNeg (vp_nar .boolean 0)))), (g3, .inl (kG3, 4, .inl (upd (fun _ => 0) (p0 : Int32).toNatClampNeg p1))), (g4, .inl (kG4, 4, .inl (fun _ => 0))), (g5, .inl (kG5, 4, .inl (upd (fun _ => 0) (p0 : Int32).toNatClampNeg p2))), (g7, .inl (kG6, 4, .inl (upd (fun _ => 0) (p0 : Int32).toNatClampNeg 0))), (g12, .inl (kG7, 4, .inl (upd (fun _ => 0) (p0 : Int32).toNatClampNeg 0))), (g13, .inl (kG8, 4, .inl (upd (fun _ => 0) (p0 : Int32).toNatClampNeg 0))), (g14, .inl (kG9, 4, .inl (fun _ => 0))), (g15, .inl (kG10, 4, .inl (fun _ => 0))), (g16, .inl (kG11, 4, .inl (fun _ => 0))), (g17, .inl (kG12, 4, .inl (fun _ => 0)))] H := hP
  have hD : va_D A [(g0, .inr (4, [.ref g1, .ref g2, .ref g3, .ref g4, .ref g5, .ref g6, .ref g7, .ref g8, .ref g9, .ref g10, .ref g11, .ref g12, .ref g13, .ref g14, .ref g15, .ref g16, .ref g17, .ref g18, .int 0, .ref g19, .int 0, .int 0, .int 0])), (g1, .inl (kG1, 4, .inl (upd (fun _ => 0) (p0 : Int32).toNatClampNeg (vp_nar .boolean 1)))), (g2, .inl (kG2, 4, .inl (upd (fun _ => 0) (p0 : Int32).toNatClampNeg (vp_nar .boolean 0)))), (g3, .inl (kG3, 4, .inl (upd (fun _ => 0) (p0 : Int32).toNatClampNeg p1))), (g4, .inl (kG4, 4, .inl (fun _ => 0))), (g5, .inl (kG5, 4, .inl (upd (fun _ => 0) (p0 : Int32).toNatClampNeg p2))), (g7, .inl (kG6, 4, .inl (upd (fun _ => 0) (p0 : Int32).toNatClampNeg 0))), (g12, .inl (kG7, 4, .inl (upd (fun _ => 0) (p0 : Int32).toNatClampNeg 0))), (g13, .inl (kG8, 4, .inl (upd (fun _ => 0) (p0 : Int32).toNatClampNeg 0))), (g14, .inl (kG9, 4, .inl (fun _ => 0))), (g15, .inl (kG10, 4, .inl (fun _ => 0))), (g16, .inl (kG11, 4, .inl (fun _ => 0))), (g17, .inl (kG12, 4, .inl (fun _ => 0)))] := hD
  refine lv_aload_n hx hb dX5_findAll_52 rfl (lv_at hl 2 rfl) ?_
  refine va_get (D := (dC, dI)) (ci := 4) (v := .ref g15) (C := RX5) (T := TX5) (N := 23) hx hb hts (by decide +kernel) hown hK hP 0 rfl rfl 14 (by decide) (hts (.fieldLink RX5 53 "SignFormsModel" "broken" "[I") (by decide +kernel)) (fun _ h9 => h9) rfl dX5_findAll_53 ?_
  refine lv_iload_n hx hb dX5_findAll_56 rfl (lv_at hl 3 rfl) ?_
  refine lv_iconst (v := (-1)) hx hb dX5_findAll_57 (by decide) ?_
  refine va_iast hx hb hK hP hD hS 10 9 rfl rfl (vp_in_iff.mpr (by omega)) dX5_findAll_58 (fun H locs hP hD hS => ?_)
  have hP : va_P (dC, dI) vwCl [(g0, .inr (4, [.ref g1, .ref g2, .ref g3, .ref g4, .ref g5, .ref g6, .ref g7, .ref g8, .ref g9, .ref g10, .ref g11, .ref g12, .ref g13, .ref g14, .ref g15, .ref g16, .ref g17, .ref g18, .int 0, .ref g19, .int 0, .int 0, .int 0])), (g1, .inl (kG1, 4, .inl (upd (fun _ => 0) (p0 : Int32).toNatClampNeg (vp_nar .boolean 1)))), (g2, .inl (kG2, 4, .inl (upd (fun _ => 0) (p0 : Int32).toNatClampNeg (vp_nar .boolean 0)))), (g3, .inl (kG3, 4, .inl (upd (fun _ => 0) (p0 : Int32).toNatClampNeg p1))), (g4, .inl (kG4, 4, .inl (fun _ => 0))), (g5, .inl (kG5, 4, .inl (upd (fun _ => 0) (p0 : Int32).toNatClampNeg p2))), (g7, .inl (kG6, 4, .inl (upd (fun _ => 0) (p0 : Int32).toNatClampNeg 0))), (g12, .inl (kG7, 4, .inl (upd (fun _ => 0) (p0 : Int32).toNatClampNeg 0))), (g13, .inl (kG8, 4, .inl (upd (fun _ => 0) (p0 : Int32).toNatClampNeg 0))), (g14, .inl (kG9, 4, .inl (fun _ => 0))), (g15, .inl (kG10, 4, .inl (upd (fun _ => 0) (p0 : Int32).toNatClampNeg (-1)))), (g16, .inl (kG11, 4, .inl (fun _ => 0))), (g17, .inl (kG12, 4, .inl (fun _ => 0)))] H := hP
  have hD : va_D A [(g0, .inr (4, [.ref g1, .ref g2, .ref g3, .ref g4, .ref g5, .ref g6, .ref g7, .ref g8, .ref g9, .ref g10, .ref g11, .ref g12, .ref g13, .ref g14, .ref g15, .ref g16, .ref g17, .ref g18, .int 0, .ref g19, .int 0, .int 0, .int 0])), (g1, .inl (kG1, 4, .inl (upd (fun _ => 0) (p0 : Int32).toNatClampNeg (vp_nar .boolean 1)))), (g2, .inl (kG2, 4, .inl (upd (fun _ => 0) (p0 : Int32).toNatClampNeg (vp_nar .boolean 0)))), (g3, .inl (kG3, 4, .inl (upd (fun _ => 0) (p0 : Int32).toNatClampNeg p1))), (g4, .inl (kG4, 4, .inl (fun _ => 0))), (g5, .inl (kG5, 4, .inl (upd (fun _ => 0) (p0 : Int32).toNatClampNeg p2))), (g7, .inl (kG6, 4, .inl (upd (fun _ => 0) (p0 : Int32).toNatClampNeg 0))), (g12, .inl (kG7, 4, .inl (upd (fun _ => 0) (p0 : Int32).toNatClampNeg 0))), (g13, .inl (kG8, 4, .inl (upd (fun _ => 0) (p0 : Int32).toNatClampNeg 0))), (g14, .inl (kG9, 4, .inl (fun _ => 0))), (g15, .inl (kG10, 4, .inl (upd (fun _ => 0) (p0 : Int32).toNatClampNeg (-1)))), (g16, .inl (kG11, 4, .inl (fun _ => 0))), (g17, .inl (kG12, 4, .inl (fun _ => 0)))] := hD
  refine lv_aload_n hx hb dX5_findAll_59 rfl (lv_at hl 2 rfl) ?_
  refine va_get (D := (dC, dI)) (ci := 4) (v := .ref g16) (C := RX5) (T := TX5) (N := 23) hx hb hts (by decide +kernel) hown hK hP 0 rfl rfl 15 (by decide) (hts (.fieldLink RX5 56 "SignFormsModel" "firstSubpart" "[I") (by decide +kernel)) (fun _ h9 => h9) rfl dX5_findAll_60 ?_
  refine lv_iload_n hx hb dX5_findAll_63 rfl (lv_at hl 3 rfl) ?_
  refine lv_iconst (v := (-1)) hx hb dX5_findAll_64 (by decide) ?_
  refine va_iast hx hb hK hP hD hS 11 10 rfl rfl (vp_in_iff.mpr (by omega)) dX5_findAll_65 (fun H locs hP hD hS => ?_)
  have hP : va_P (dC, dI) vwCl [(g0, .inr (4, [.ref g1, .ref g2, .ref g3, .ref g4, .ref g5, .ref g6, .ref g7, .ref g8, .ref g9, .ref g10, .ref g11, .ref g12, .ref g13, .ref g14, .ref g15, .ref g16, .ref g17, .ref g18, .int 0, .ref g19, .int 0, .int 0, .int 0])), (g1, .inl (kG1, 4, .inl (upd (fun _ => 0) (p0 : Int32).toNatClampNeg (vp_nar .boolean 1)))), (g2, .inl (kG2, 4, .inl (upd (fun _ => 0) (p0 : Int32).toNatClampNeg (vp_nar .boolean 0)))), (g3, .inl (kG3, 4, .inl (upd (fun _ => 0) (p0 : Int32).toNatClampNeg p1))), (g4, .inl (kG4, 4, .inl (fun _ => 0))), (g5, .inl (kG5, 4, .inl (upd (fun _ => 0) (p0 : Int32).toNatClampNeg p2))), (g7, .inl (kG6, 4, .inl (upd (fun _ => 0) (p0 : Int32).toNatClampNeg 0))), (g12, .inl (kG7, 4, .inl (upd (fun _ => 0) (p0 : Int32).toNatClampNeg 0))), (g13, .inl (kG8, 4, .inl (upd (fun _ => 0) (p0 : Int32).toNatClampNeg 0))), (g14, .inl (kG9, 4, .inl (fun _ => 0))), (g15, .inl (kG10, 4, .inl (upd (fun _ => 0) (p0 : Int32).toNatClampNeg (-1)))), (g16, .inl (kG11, 4, .inl (upd (fun _ => 0) (p0 : Int32).toNatClampNeg (-1)))), (g17, .inl (kG12, 4, .inl (fun _ => 0)))] H := hP
  have hD : va_D A [(g0, .inr (4, [.ref g1, .ref g2, .ref g3, .ref g4, .ref g5, .ref g6, .ref g7, .ref g8, .ref g9, .ref g10, .ref g11, .ref g12, .ref g13, .ref g14, .ref g15, .ref g16, .ref g17, .ref g18, .int 0, .ref g19, .int 0, .int 0, .int 0])), (g1, .inl (kG1, 4, .inl (upd (fun _ => 0) (p0 : Int32).toNatClampNeg (vp_nar .boolean 1)))), (g2, .inl (kG2, 4, .inl (upd (fun _ => 0) (p0 : Int32).toNatClampNeg (vp_nar .boolean 0)))), (g3, .inl (kG3, 4, .inl (upd (fun _ => 0) (p0 : Int32).toNatClampNeg p1))), (g4, .inl (kG4, 4, .inl (fun _ => 0))), (g5, .inl (kG5, 4, .inl (upd (fun _ => 0) (p0 : Int32).toNatClampNeg p2))), (g7, .inl (kG6, 4, .inl (upd (fun _ => 0) (p0 : Int32).toNatClampNeg 0))), (g12, .inl (kG7, 4, .inl (upd (fun _ => 0) (p0 : Int32).toNatClampNeg 0))), (g13, .inl (kG8, 4, .inl (upd (fun _ => 0) (p0 : Int32).toNatClampNeg 0))), (g14, .inl (kG9, 4, .inl (fun _ => 0))), (g15, .inl (kG10, 4, .inl (upd (fun _ => 0) (p0 : Int32).toNatClampNeg (-1)))), (g16, .inl (kG11, 4, .inl (upd (fun _ => 0) (p0 : Int32).toNatClampNeg (-1)))), (g17, .inl (kG12, 4, .inl (fun _ => 0)))] := hD
  refine lv_aload_n hx hb dX5_findAll_66 rfl (lv_at hl 2 rfl) ?_
  refine va_get (D := (dC, dI)) (ci := 4) (v := .ref g17) (C := RX5) (T := TX5) (N := 23) hx hb hts (by decide +kernel) hown hK hP 0 rfl rfl 16 (by decide) (hts (.fieldLink RX5 59 "SignFormsModel" "isMarked" "[Z") (by decide +kernel)) (fun _ h9 => h9) rfl dX5_findAll_67 ?_
  refine lv_iload_n hx hb dX5_findAll_70 rfl (lv_at hl 3 rfl) ?_
  refine lv_iconst (v := 0) hx hb dX5_findAll_71 (by decide) ?_
  refine va_zast hx hb hK hP hD hS 12 11 rfl rfl (vp_in_iff.mpr (by omega)) dX5_findAll_72 (fun H locs hP hD hS => ?_)
  have hP : va_P (dC, dI) vwCl [(g0, .inr (4, [.ref g1, .ref g2, .ref g3, .ref g4, .ref g5, .ref g6, .ref g7, .ref g8, .ref g9, .ref g10, .ref g11, .ref g12, .ref g13, .ref g14, .ref g15, .ref g16, .ref g17, .ref g18, .int 0, .ref g19, .int 0, .int 0, .int 0])), (g1, .inl (kG1, 4, .inl (upd (fun _ => 0) (p0 : Int32).toNatClampNeg (vp_nar .boolean 1)))), (g2, .inl (kG2, 4, .inl (upd (fun _ => 0) (p0 : Int32).toNatClampNeg (vp_nar .boolean 0)))), (g3, .inl (kG3, 4, .inl (upd (fun _ => 0) (p0 : Int32).toNatClampNeg p1))), (g4, .inl (kG4, 4, .inl (fun _ => 0))), (g5, .inl (kG5, 4, .inl (upd (fun _ => 0) (p0 : Int32).toNatClampNeg p2))), (g7, .inl (kG6, 4, .inl (upd (fun _ => 0) (p0 : Int32).toNatClampNeg 0))), (g12, .inl (kG7, 4, .inl (upd (fun _ => 0) (p0 : Int32).toNatClampNeg 0))), (g13, .inl (kG8, 4, .inl (upd (fun _ => 0) (p0 : Int32).toNatClampNeg 0))), (g14, .inl (kG9, 4, .inl (fun _ => 0))), (g15, .inl (kG10, 4, .inl (upd (fun _ => 0) (p0 : Int32).toNatClampNeg (-1)))), (g16, .inl (kG11, 4, .inl (upd (fun _ => 0) (p0 : Int32).toNatClampNeg (-1)))), (g17, .inl (kG12, 4, .inl (upd (fun _ => 0) (p0 : Int32).toNatClampNeg (vp_nar .boolean 0))))] H := hP
  have hD : va_D A [(g0, .inr (4, [.ref g1, .ref g2, .ref g3, .ref g4, .ref g5, .ref g6, .ref g7, .ref g8, .ref g9, .ref g10, .ref g11, .ref g12, .ref g13, .ref g14, .ref g15, .ref g16, .ref g17, .ref g18, .int 0, .ref g19, .int 0, .int 0, .int 0])), (g1, .inl (kG1, 4, .inl (upd (fun _ => 0) (p0 : Int32).toNatClampNeg (vp_nar .boolean 1)))), (g2, .inl (kG2, 4, .inl (upd (fun _ => 0) (p0 : Int32).toNatClampNeg (vp_nar .boolean 0)))), (g3, .inl (kG3, 4, .inl (upd (fun _ => 0) (p0 : Int32).toNatClampNeg p1))), (g4, .inl (kG4, 4, .inl (fun _ => 0))), (g5, .inl (kG5, 4, .inl (upd (fun _ => 0) (p0 : Int32).toNatClampNeg p2))), (g7, .inl (kG6, 4, .inl (upd (fun _ => 0) (p0 : Int32).toNatClampNeg 0))), (g12, .inl (kG7, 4, .inl (upd (fun _ => 0) (p0 : Int32).toNatClampNeg 0))), (g13, .inl (kG8, 4, .inl (upd (fun _ => 0) (p0 : Int32).toNatClampNeg 0))), (g14, .inl (kG9, 4, .inl (fun _ => 0))), (g15, .inl (kG10, 4, .inl (upd (fun _ => 0) (p0 : Int32).toNatClampNeg (-1)))), (g16, .inl (kG11, 4, .inl (upd (fun _ => 0) (p0 : Int32).toNatClampNeg (-1)))), (g17, .inl (kG12, 4, .inl (upd (fun _ => 0) (p0 : Int32).toNatClampNeg (vp_nar .boolean 0))))] := hD
  refine lv_aload_n hx hb dX5_findAll_73 rfl (lv_at hl 2 rfl) ?_
  refine va_get (D := (dC, dI)) (ci := 4) (v := .ref g14) (C := RX5) (T := TX5) (N := 23) hx hb hts (by decide +kernel) hown hK hP 0 rfl rfl 13 (by decide) (hts (.fieldLink RX5 50 "SignFormsModel" "open" "[I") (by decide +kernel)) (fun _ h9 => h9) rfl dX5_findAll_74 ?_
  refine lv_iload_n hx hb dX5_findAll_77 rfl (lv_at hl 3 rfl) ?_
  refine lv_iload_n hx hb dX5_findAll_78 rfl (lv_at hl 1 rfl) ?_
  refine va_iast hx hb hK hP hD hS 9 8 rfl rfl (vp_in_iff.mpr (by omega)) dX5_findAll_79 (fun H locs hP hD hS => ?_)
  have hP : va_P (dC, dI) vwCl [(g0, .inr (4, [.ref g1, .ref g2, .ref g3, .ref g4, .ref g5, .ref g6, .ref g7, .ref g8, .ref g9, .ref g10, .ref g11, .ref g12, .ref g13, .ref g14, .ref g15, .ref g16, .ref g17, .ref g18, .int 0, .ref g19, .int 0, .int 0, .int 0])), (g1, .inl (kG1, 4, .inl (upd (fun _ => 0) (p0 : Int32).toNatClampNeg (vp_nar .boolean 1)))), (g2, .inl (kG2, 4, .inl (upd (fun _ => 0) (p0 : Int32).toNatClampNeg (vp_nar .boolean 0)))), (g3, .inl (kG3, 4, .inl (upd (fun _ => 0) (p0 : Int32).toNatClampNeg p1))), (g4, .inl (kG4, 4, .inl (fun _ => 0))), (g5, .inl (kG5, 4, .inl (upd (fun _ => 0) (p0 : Int32).toNatClampNeg p2))), (g7, .inl (kG6, 4, .inl (upd (fun _ => 0) (p0 : Int32).toNatClampNeg 0))), (g12, .inl (kG7, 4, .inl (upd (fun _ => 0) (p0 : Int32).toNatClampNeg 0))), (g13, .inl (kG8, 4, .inl (upd (fun _ => 0) (p0 : Int32).toNatClampNeg 0))), (g14, .inl (kG9, 4, .inl (upd (fun _ => 0) (p0 : Int32).toNatClampNeg 0))), (g15, .inl (kG10, 4, .inl (upd (fun _ => 0) (p0 : Int32).toNatClampNeg (-1)))), (g16, .inl (kG11, 4, .inl (upd (fun _ => 0) (p0 : Int32).toNatClampNeg (-1)))), (g17, .inl (kG12, 4, .inl (upd (fun _ => 0) (p0 : Int32).toNatClampNeg (vp_nar .boolean 0))))] H := hP
  have hD : va_D A [(g0, .inr (4, [.ref g1, .ref g2, .ref g3, .ref g4, .ref g5, .ref g6, .ref g7, .ref g8, .ref g9, .ref g10, .ref g11, .ref g12, .ref g13, .ref g14, .ref g15, .ref g16, .ref g17, .ref g18, .int 0, .ref g19, .int 0, .int 0, .int 0])), (g1, .inl (kG1, 4, .inl (upd (fun _ => 0) (p0 : Int32).toNatClampNeg (vp_nar .boolean 1)))), (g2, .inl (kG2, 4, .inl (upd (fun _ => 0) (p0 : Int32).toNatClampNeg (vp_nar .boolean 0)))), (g3, .inl (kG3, 4, .inl (upd (fun _ => 0) (p0 : Int32).toNatClampNeg p1))), (g4, .inl (kG4, 4, .inl (fun _ => 0))), (g5, .inl (kG5, 4, .inl (upd (fun _ => 0) (p0 : Int32).toNatClampNeg p2))), (g7, .inl (kG6, 4, .inl (upd (fun _ => 0) (p0 : Int32).toNatClampNeg 0))), (g12, .inl (kG7, 4, .inl (upd (fun _ => 0) (p0 : Int32).toNatClampNeg 0))), (g13, .inl (kG8, 4, .inl (upd (fun _ => 0) (p0 : Int32).toNatClampNeg 0))), (g14, .inl (kG9, 4, .inl (upd (fun _ => 0) (p0 : Int32).toNatClampNeg 0))), (g15, .inl (kG10, 4, .inl (upd (fun _ => 0) (p0 : Int32).toNatClampNeg (-1)))), (g16, .inl (kG11, 4, .inl (upd (fun _ => 0) (p0 : Int32).toNatClampNeg (-1)))), (g17, .inl (kG12, 4, .inl (upd (fun _ => 0) (p0 : Int32).toNatClampNeg (vp_nar .boolean 0))))] := hD
  refine lv_aload_n hx hb dX5_findAll_80 rfl (lv_at hl 2 rfl) ?_
  refine va_get (D := (dC, dI)) (ci := 4) (v := .ref g4) (C := RX5) (T := TX5) (N := 23) hx hb hts (by decide +kernel) hown hK hP 0 rfl rfl 3 (by decide) (hts (.fieldLink RX5 20 "SignFormsModel" "form" "[I") (by decide +kernel)) (fun _ h9 => h9) rfl dX5_findAll_81 ?_
  refine lv_iload_n hx hb dX5_findAll_84 rfl (lv_at hl 3 rfl) ?_
  refine lv_aload_n hx hb dX5_findAll_85 rfl (lv_at hl 2 rfl) ?_
  refine va_get (D := (dC, dI)) (ci := 4) (v := .ref g3) (C := RX5) (T := TX5) (N := 23) hx hb hts (by decide +kernel) hown hK hP 0 rfl rfl 2 (by decide) (hts (.fieldLink RX5 16 "SignFormsModel" "told" "[I") (by decide +kernel)) (fun _ h9 => h9) rfl dX5_findAll_86 ?_
  refine lv_iload_n hx hb dX5_findAll_89 rfl (lv_at hl 3 rfl) ?_
  refine va_iald hx hb hK hP 3 2 rfl rfl (vp_in_iff.mpr (by omega)) dX5_findAll_90 ?_
  refine W.eq (g2 := F0 m 91 ls [.int p1, .int p0, .ref g4]) (by rw [pk_us]) ?_
  refine va_iast hx hb hK hP hD hS 4 3 rfl rfl (vp_in_iff.mpr (by omega)) dX5_findAll_91 (fun H locs hP hD hS => ?_)
  have hP : va_P (dC, dI) vwCl [(g0, .inr (4, [.ref g1, .ref g2, .ref g3, .ref g4, .ref g5, .ref g6, .ref g7, .ref g8, .ref g9, .ref g10, .ref g11, .ref g12, .ref g13, .ref g14, .ref g15, .ref g16, .ref g17, .ref g18, .int 0, .ref g19, .int 0, .int 0, .int 0])), (g1, .inl (kG1, 4, .inl (upd (fun _ => 0) (p0 : Int32).toNatClampNeg (vp_nar .boolean 1)))), (g2, .inl (kG2, 4, .inl (upd (fun _ => 0) (p0 : Int32).toNatClampNeg (vp_nar .boolean 0)))), (g3, .inl (kG3, 4, .inl (upd (fun _ => 0) (p0 : Int32).toNatClampNeg p1))), (g4, .inl (kG4, 4, .inl (upd (fun _ => 0) (p0 : Int32).toNatClampNeg p1))), (g5, .inl (kG5, 4, .inl (upd (fun _ => 0) (p0 : Int32).toNatClampNeg p2))), (g7, .inl (kG6, 4, .inl (upd (fun _ => 0) (p0 : Int32).toNatClampNeg 0))), (g12, .inl (kG7, 4, .inl (upd (fun _ => 0) (p0 : Int32).toNatClampNeg 0))), (g13, .inl (kG8, 4, .inl (upd (fun _ => 0) (p0 : Int32).toNatClampNeg 0))), (g14, .inl (kG9, 4, .inl (upd (fun _ => 0) (p0 : Int32).toNatClampNeg 0))), (g15, .inl (kG10, 4, .inl (upd (fun _ => 0) (p0 : Int32).toNatClampNeg (-1)))), (g16, .inl (kG11, 4, .inl (upd (fun _ => 0) (p0 : Int32).toNatClampNeg (-1)))), (g17, .inl (kG12, 4, .inl (upd (fun _ => 0) (p0 : Int32).toNatClampNeg (vp_nar .boolean 0))))] H := hP
  have hD : va_D A [(g0, .inr (4, [.ref g1, .ref g2, .ref g3, .ref g4, .ref g5, .ref g6, .ref g7, .ref g8, .ref g9, .ref g10, .ref g11, .ref g12, .ref g13, .ref g14, .ref g15, .ref g16, .ref g17, .ref g18, .int 0, .ref g19, .int 0, .int 0, .int 0])), (g1, .inl (kG1, 4, .inl (upd (fun _ => 0) (p0 : Int32).toNatClampNeg (vp_nar .boolean 1)))), (g2, .inl (kG2, 4, .inl (upd (fun _ => 0) (p0 : Int32).toNatClampNeg (vp_nar .boolean 0)))), (g3, .inl (kG3, 4, .inl (upd (fun _ => 0) (p0 : Int32).toNatClampNeg p1))), (g4, .inl (kG4, 4, .inl (upd (fun _ => 0) (p0 : Int32).toNatClampNeg p1))), (g5, .inl (kG5, 4, .inl (upd (fun _ => 0) (p0 : Int32).toNatClampNeg p2))), (g7, .inl (kG6, 4, .inl (upd (fun _ => 0) (p0 : Int32).toNatClampNeg 0))), (g12, .inl (kG7, 4, .inl (upd (fun _ => 0) (p0 : Int32).toNatClampNeg 0))), (g13, .inl (kG8, 4, .inl (upd (fun _ => 0) (p0 : Int32).toNatClampNeg 0))), (g14, .inl (kG9, 4, .inl (upd (fun _ => 0) (p0 : Int32).toNatClampNeg 0))), (g15, .inl (kG10, 4, .inl (upd (fun _ => 0) (p0 : Int32).toNatClampNeg (-1)))), (g16, .inl (kG11, 4, .inl (upd (fun _ => 0) (p0 : Int32).toNatClampNeg (-1)))), (g17, .inl (kG12, 4, .inl (upd (fun _ => 0) (p0 : Int32).toNatClampNeg (vp_nar .boolean 0))))] := hD
  refine lv_iconst (v := 0) hx hb dX5_findAll_92 (by decide) ?_
  refine lv_istore_n (lv' := [(3, .int 0), (2, .int 0), (0, .ref g0), (1, .int p0)]) hx hb dX5_findAll_93 rfl hl (by decide) rfl (fun ls hl => ?_)
  refine lv_aload_n hx hb dX5_findAll_94 rfl (lv_at hl 2 rfl) ?_
  refine va_get (D := (dC, dI)) (ci := 4) (v := .ref g3) (C := RX5) (T := TX5) (N := 23) hx hb hts (by decide +kernel) hown hK hP 0 rfl rfl 2 (by decide) (hts (.fieldLink RX5 16 "SignFormsModel" "told" "[I") (by decide +kernel)) (fun _ h9 => h9) rfl dX5_findAll_95 ?_
  refine lv_iload_n hx hb dX5_findAll_98 rfl (lv_at hl 3 rfl) ?_
  refine va_iald hx hb hK hP 3 2 rfl rfl (vp_in_iff.mpr (by omega)) dX5_findAll_99 ?_
  refine W.eq (g2 := F0 m 100 ls [.int p1]) (by rw [pk_us]) ?_
  refine lv_bipush (v := 6) hx hb dX5_findAll_100 (by decide +kernel) ?_
  refine lv_icmp_ne (tgt := 142) hx hb dX5_findAll_102 (by decide) (fun c_2 => ?_) (fun c_2 => ?_)
  · have zc_2 : p1.toInt ≠ (6 : Int) := zz_neq rfl (by decide) c_2
    refine lv_aload_n hx hb dX5_findAll_142 rfl (lv_at hl 2 rfl) ?_
    refine va_get (D := (dC, dI)) (ci := 4) (v := .ref g4) (C := RX5) (T := TX5) (N := 23) hx hb hts (by decide +kernel) hown hK hP 0 rfl rfl 3 (by decide) (hts (.fieldLink RX5 20 "SignFormsModel" "form" "[I") (by decide +kernel)) (fun _ h9 => h9) rfl dX5_findAll_143 ?_
    refine lv_iload_n hx hb dX5_findAll_146 rfl (lv_at hl 3 rfl) ?_
    refine va_iald hx hb hK hP 4 3 rfl rfl (vp_in_iff.mpr (by omega)) dX5_findAll_147 ?_
    refine W.eq (g2 := F0 m 148 ls [.int p1]) (by rw [pk_us]) ?_
    refine lv_bipush (v := 6) hx hb dX5_findAll_148 (by decide +kernel) ?_
    refine lv_icmp_ne (tgt := 154) hx hb dX5_findAll_150 (by decide) (fun c_3 => ?_) (fun c_3 => ?_)
    · have zc_3 : p1.toInt ≠ (6 : Int) := zz_neq rfl (by decide) c_3
      refine lv_iconst (v := 1) hx hb dX5_findAll_154 (by decide) ?_
      refine lv_istore (lv' := [(4, .int 1), (3, .int 0), (2, .int 0), (0, .ref g0), (1, .int p0)]) hx hb dX5_findAll_155 hl (by decide) rfl (fun ls hl => ?_)
      refine lv_iload hx hb dX5_findAll_157 (lv_at hl 0 rfl) ?_
      refine lv_if_eq (tgt := 327) hx hb dX5_findAll_159 (by decide) (fun c_4 => False.elim (by revert c_4; decide)) (fun _ => ?_)
      refine lv_iload_n hx hb dX5_findAll_162 rfl (lv_at hl 1 rfl) ?_
      refine lv_iload_n hx hb dX5_findAll_163 rfl (lv_at hl 2 rfl) ?_
      refine lv_icmp_ge (tgt := 327) hx hb dX5_findAll_164 (by decide) (fun _ => ?_) (fun c_5 => False.elim (by revert c_5; decide))
      refine lv_aload_n hx hb dX5_findAll_327 rfl (lv_at hl 3 rfl) ?_
      refine va_get (D := (dC, dI)) (ci := 4) (v := .ref g14) (C := RX5) (T := TX5) (N := 23) hx hb hts (by decide +kernel) hown hK hP 0 rfl rfl 13 (by decide) (hts (.fieldLink RX5 50 "SignFormsModel" "open" "[I") (by decide +kernel)) (fun _ h9 => h9) rfl dX5_findAll_328 ?_
      refine lv_iload_n hx hb dX5_findAll_331 rfl (lv_at hl 4 rfl) ?_
      refine lv_iload_n hx hb dX5_findAll_332 rfl (lv_at hl 2 rfl) ?_
      refine lv_iload_n hx hb dX5_findAll_333 rfl (lv_at hl 1 rfl) ?_
      refine lv_isub hx hb dX5_findAll_334 ?_
      refine lv_topi (fun x_6 ex_6 => ?_)
      obtain rfl : x_6 = 0 := ex_6.trans (by decide)
      refine va_iast hx hb hK hP hD hS 9 8 rfl rfl (vp_in_iff.mpr (by omega)) dX5_findAll_335 (fun H locs hP hD hS => ?_)
      have hP : va_P (dC, dI) vwCl [(g0, .inr (4, [.ref g1, .ref g2, .ref g3, .ref g4, .ref g5, .ref g6, .ref g7, .ref g8, .ref g9, .ref g10, .ref g11, .ref g12, .ref g13, .ref g14, .ref g15, .ref g16, .ref g17, .ref g18, .int 0, .ref g19, .int 0, .int 0, .int 0])), (g1, .inl (kG1, 4, .inl (upd (fun _ => 0) (p0 : Int32).toNatClampNeg (vp_nar .boolean 1)))), (g2, .inl (kG2, 4, .inl (upd (fun _ => 0) (p0 : Int32).toNatClampNeg (vp_nar .boolean 0)))), (g3, .inl (kG3, 4, .inl (upd (fun _ => 0) (p0 : Int32).toNatClampNeg p1))), (g4, .inl (kG4, 4, .inl (upd (fun _ => 0) (p0 : Int32).toNatClampNeg p1))), (g5, .inl (kG5, 4, .inl (upd (fun _ => 0) (p0 : Int32).toNatClampNeg p2))), (g7, .inl (kG6, 4, .inl (upd (fun _ => 0) (p0 : Int32).toNatClampNeg 0))), (g12, .inl (kG7, 4, .inl (upd (fun _ => 0) (p0 : Int32).toNatClampNeg 0))), (g13, .inl (kG8, 4, .inl (upd (fun _ => 0) (p0 : Int32).toNatClampNeg 0))), (g14, .inl (kG9, 4, .inl (upd (upd (fun _ => 0) (p0 : Int32).toNatClampNeg 0) (p0 : Int32).toNatClampNeg 0))), (g15, .inl (kG10, 4, .inl (upd (fun _ => 0) (p0 : Int32).toNatClampNeg (-1)))), (g16, .inl (kG11, 4, .inl (upd (fun _ => 0) (p0 : Int32).toNatClampNeg (-1)))), (g17, .inl (kG12, 4, .inl (upd (fun _ => 0) (p0 : Int32).toNatClampNeg (vp_nar .boolean 0))))] H := hP
      have hD : va_D A [(g0, .inr (4, [.ref g1, .ref g2, .ref g3, .ref g4, .ref g5, .ref g6, .ref g7, .ref g8, .ref g9, .ref g10, .ref g11, .ref g12, .ref g13, .ref g14, .ref g15, .ref g16, .ref g17, .ref g18, .int 0, .ref g19, .int 0, .int 0, .int 0])), (g1, .inl (kG1, 4, .inl (upd (fun _ => 0) (p0 : Int32).toNatClampNeg (vp_nar .boolean 1)))), (g2, .inl (kG2, 4, .inl (upd (fun _ => 0) (p0 : Int32).toNatClampNeg (vp_nar .boolean 0)))), (g3, .inl (kG3, 4, .inl (upd (fun _ => 0) (p0 : Int32).toNatClampNeg p1))), (g4, .inl (kG4, 4, .inl (upd (fun _ => 0) (p0 : Int32).toNatClampNeg p1))), (g5, .inl (kG5, 4, .inl (upd (fun _ => 0) (p0 : Int32).toNatClampNeg p2))), (g7, .inl (kG6, 4, .inl (upd (fun _ => 0) (p0 : Int32).toNatClampNeg 0))), (g12, .inl (kG7, 4, .inl (upd (fun _ => 0) (p0 : Int32).toNatClampNeg 0))), (g13, .inl (kG8, 4, .inl (upd (fun _ => 0) (p0 : Int32).toNatClampNeg 0))), (g14, .inl (kG9, 4, .inl (upd (upd (fun _ => 0) (p0 : Int32).toNatClampNeg 0) (p0 : Int32).toNatClampNeg 0))), (g15, .inl (kG10, 4, .inl (upd (fun _ => 0) (p0 : Int32).toNatClampNeg (-1)))), (g16, .inl (kG11, 4, .inl (upd (fun _ => 0) (p0 : Int32).toNatClampNeg (-1)))), (g17, .inl (kG12, 4, .inl (upd (fun _ => 0) (p0 : Int32).toNatClampNeg (vp_nar .boolean 0))))] := hD
      exact W.vret hx hb hr (fun t ht hW => ⟨⟨(), rfl, trivial, trivial⟩, hS.F ht⟩) hS.2.2 dX5_findAll_336
    · have zc_3 : p1.toInt = (6 : Int) := zz_eq rfl (by decide) c_3
      exact W.vret hx hb hr (fun t ht hW => ⟨⟨(), rfl, trivial, trivial⟩, hS.F ht⟩) hS.2.2 dX5_findAll_153
  · have zc_2 : p1.toInt = (6 : Int) := zz_eq rfl (by decide) c_2
    refine lv_aload_n hx hb dX5_findAll_105 rfl (lv_at hl 2 rfl) ?_
    refine lv_iload_n hx hb dX5_findAll_106 rfl (lv_at hl 1 rfl) ?_
    refine lv_aload_n hx hb dX5_findAll_107 rfl (lv_at hl 2 rfl) ?_
    refine va_get (D := (dC, dI)) (ci := 4) (v := .ref g2) (C := RX5) (T := TX5) (N := 23) hx hb hts (by decide +kernel) hown hK hP 0 rfl rfl 1 (by decide) (hts (.fieldLink RX5 13 "SignFormsModel" "isEnded" "[Z") (by decide +kernel)) (fun _ h9 => h9) rfl dX5_findAll_108 ?_
    refine lv_iload_n hx hb dX5_findAll_111 rfl (lv_at hl 3 rfl) ?_
    refine va_zald hx hb hK hP 2 1 rfl rfl (vp_in_iff.mpr (by omega)) dX5_findAll_112 ?_
    refine W.eq (g2 := F0 m 113 ls [.int 0, .int 0, .ref g0]) (by rw [pk_us]; rfl) ?_
    have hPc := hP.sub (ws' := [(g0, .inr (4, [.ref g1, .ref g2, .ref g3, .ref g4, .ref g5, .ref g6, .ref g7, .ref g8, .ref g9, .ref g10, .ref g11, .ref g12, .ref g13, .ref g14, .ref g15, .ref g16, .ref g17, .ref g18, .int 0, .ref g19, .int 0, .int 0, .int 0]))]) [0] rfl
    have hKc := hK.sub (tys' := []) [] rfl
    have hDc := hD.sub (ws' := [(g0, .inr (4, [.ref g1, .ref g2, .ref g3, .ref g4, .ref g5, .ref g6, .ref g7, .ref g8, .ref g9, .ref g10, .ref g11, .ref g12, .ref g13, .ref g14, .ref g15, .ref g16, .ref g17, .ref g18, .int 0, .ref g19, .int 0, .int 0, .int 0]))]) [0] (by decide) rfl
    have hFc := va_free (wc := [(g0, .inr (4, [.ref g1, .ref g2, .ref g3, .ref g4, .ref g5, .ref g6, .ref g7, .ref g8, .ref g9, .ref g10, .ref g11, .ref g12, .ref g13, .ref g14, .ref g15, .ref g16, .ref g17, .ref g18, .int 0, .ref g19, .int 0, .int 0, .int 0]))]) hD hS hA [0] rfl
    refine va_calli (va_runV (As := [.int 0, .int 0]) (rest := []) ⟨hx, hb, hml, hown, hts⟩ (kX5_findForm l dC dI g0 g1 g2 g3 g4 g5 g6 g7 g8 g9 g10 g11 g12 g13 g14 g15 g16 g17 g18 g19 H.size) (cwV 2 hts gX5_findAll_X5_findForm rfl rfl rfl (by decide +kernel) ⟨Nat.le_of_ble_eq_true rfl, Nat.le_of_ble_eq_true rfl⟩) ⟨fun a U g mk q => by obtain ⟨q0, q1, qP, qK, qD⟩ := q; exact ⟨q0, q1, qP, va_K.moved (u := U) (U := U.calling g mk a) (Vm.Alike.refl U.vm) qK, qD⟩, va_recv hKc hPc (ci := 4) (q0 := 0) rfl rfl, fun U hU hW => ⟨rfl, by rw [hU], by rw [hU]; exact hPc, va_K.moved hW.alike hKc, hDc.weaken (fun _ _ _ _ => trivial)⟩⟩ rfl rfl hl.1 rfl (lv_room (Nat.le_of_ble_eq_true rfl)) dX5_findAll_113 ⟨Nat.le_of_ble_eq_true rfl, Nat.le_of_ble_eq_true rfl⟩) hS (fun q _ h => hFc q h) hFc (fun r_7 u t H1 locs ht hvm hwr_7 hB hz1 hk1 hS => ?_)
    obtain ⟨hP1, hK1, hD1⟩ := hB
    rw [ht] at hP1
    obtain ⟨hP, hD⟩ := va_join (wr := [(g1, .inl (kG1, 4, .inl (upd (fun _ => 0) (p0 : Int32).toNatClampNeg (vp_nar .boolean 1)))), (g2, .inl (kG2, 4, .inl (upd (fun _ => 0) (p0 : Int32).toNatClampNeg (vp_nar .boolean 0)))), (g3, .inl (kG3, 4, .inl (upd (fun _ => 0) (p0 : Int32).toNatClampNeg p1))), (g4, .inl (kG4, 4, .inl (upd (fun _ => 0) (p0 : Int32).toNatClampNeg p1))), (g5, .inl (kG5, 4, .inl (upd (fun _ => 0) (p0 : Int32).toNatClampNeg p2))), (g7, .inl (kG6, 4, .inl (upd (fun _ => 0) (p0 : Int32).toNatClampNeg 0))), (g12, .inl (kG7, 4, .inl (upd (fun _ => 0) (p0 : Int32).toNatClampNeg 0))), (g13, .inl (kG8, 4, .inl (upd (fun _ => 0) (p0 : Int32).toNatClampNeg 0))), (g14, .inl (kG9, 4, .inl (upd (fun _ => 0) (p0 : Int32).toNatClampNeg 0))), (g15, .inl (kG10, 4, .inl (upd (fun _ => 0) (p0 : Int32).toNatClampNeg (-1)))), (g16, .inl (kG11, 4, .inl (upd (fun _ => 0) (p0 : Int32).toNatClampNeg (-1)))), (g17, .inl (kG12, 4, .inl (upd (fun _ => 0) (p0 : Int32).toNatClampNeg (vp_nar .boolean 0))))]) (w1 := [(g0, .inr (4, [.ref g1, .ref g2, .ref g3, .ref g4, .ref g5, .ref g6, .ref g7, .ref g8, .ref g9, .ref g10, .ref g11, .ref g12, .ref g13, .ref g14, .ref g15, .ref g16, .ref g17, .ref g18, .int 0, .ref g19, .int 0, .int 6, .int 0]))]) hP hD [0] [1, 2, 3, 4, 5, 6, 7, 8, 9, 10, 11, 12] rfl rfl (by decide) (by decide) hk1 hFc hP1 hD1
    generalize H1 = H at hP hS ⊢
    have hP : va_P (dC, dI) vwCl [(g1, .inl (kG1, 4, .inl (upd (fun _ => 0) (p0 : Int32).toNatClampNeg (vp_nar .boolean 1)))), (g2, .inl (kG2, 4, .inl (upd (fun _ => 0) (p0 : Int32).toNatClampNeg (vp_nar .boolean 0)))), (g3, .inl (kG3, 4, .inl (upd (fun _ => 0) (p0 : Int32).toNatClampNeg p1))), (g4, .inl (kG4, 4, .inl (upd (fun _ => 0) (p0 : Int32).toNatClampNeg p1))), (g5, .inl (kG5, 4, .inl (upd (fun _ => 0) (p0 : Int32).toNatClampNeg p2))), (g7, .inl (kG6, 4, .inl (upd (fun _ => 0) (p0 : Int32).toNatClampNeg 0))), (g12, .inl (kG7, 4, .inl (upd (fun _ => 0) (p0 : Int32).toNatClampNeg 0))), (g13, .inl (kG8, 4, .inl (upd (fun _ => 0) (p0 : Int32).toNatClampNeg 0))), (g14, .inl (kG9, 4, .inl (upd (fun _ => 0) (p0 : Int32).toNatClampNeg 0))), (g15, .inl (kG10, 4, .inl (upd (fun _ => 0) (p0 : Int32).toNatClampNeg (-1)))), (g16, .inl (kG11, 4, .inl (upd (fun _ => 0) (p0 : Int32).toNatClampNeg (-1)))), (g17, .inl (kG12, 4, .inl (upd (fun _ => 0) (p0 : Int32).toNatClampNeg (vp_nar .boolean 0)))), (g0, .inr (4, [.ref g1, .ref g2, .ref g3, .ref g4, .ref g5, .ref g6, .ref g7, .ref g8, .ref g9, .ref g10, .ref g11, .ref g12, .ref g13, .ref g14, .ref g15, .ref g16, .ref g17, .ref g18, .int 0, .ref g19, .int 0, .int 6, .int 0]))] H := hP
    have hD : va_D A [(g1, .inl (kG1, 4, .inl (upd (fun _ => 0) (p0 : Int32).toNatClampNeg (vp_nar .boolean 1)))), (g2, .inl (kG2, 4, .inl (upd (fun _ => 0) (p0 : Int32).toNatClampNeg (vp_nar .boolean 0)))), (g3, .inl (kG3, 4, .inl (upd (fun _ => 0) (p0 : Int32).toNatClampNeg p1))), (g4, .inl (kG4, 4, .inl (upd (fun _ => 0) (p0 : Int32).toNatClampNeg p1))), (g5, .inl (kG5, 4, .inl (upd (fun _ => 0) (p0 : Int32).toNatClampNeg p2))), (g7, .inl (kG6, 4, .inl (upd (fun _ => 0) (p0 : Int32).toNatClampNeg 0))), (g12, .inl (kG7, 4, .inl (upd (fun _ => 0) (p0 : Int32).toNatClampNeg 0))), (g13, .inl (kG8, 4, .inl (upd (fun _ => 0) (p0 : Int32).toNatClampNeg 0))), (g14, .inl (kG9, 4, .inl (upd (fun _ => 0) (p0 : Int32).toNatClampNeg 0))), (g15, .inl (kG10, 4, .inl (upd (fun _ => 0) (p0 : Int32).toNatClampNeg (-1)))), (g16, .inl (kG11, 4, .inl (upd (fun _ => 0) (p0 : Int32).toNatClampNeg (-1)))), (g17, .inl (kG12, 4, .inl (upd (fun _ => 0) (p0 : Int32).toNatClampNeg (vp_nar .boolean 0)))), (g0, .inr (4, [.ref g1, .ref g2, .ref g3, .ref g4, .ref g5, .ref g6, .ref g7, .ref g8, .ref g9, .ref g10, .ref g11, .ref g12, .ref g13, .ref g14, .ref g15, .ref g16, .ref g17, .ref g18, .int 0, .ref g19, .int 0, .int 6, .int 0]))] := hD
    subst hwr_7
    refine lv_istore_n (lv' := [(3, .int 0), (2, .int 0), (0, .ref g0), (1, .int p0)]) hx hb dX5_findAll_116 rfl hl (by decide) rfl (fun ls hl => ?_)
    refine lv_aload_n hx hb dX5_findAll_117 rfl (lv_at hl 2 rfl) ?_
    refine va_get (D := (dC, dI)) (ci := 4) (v := .ref g4) (C := RX5) (T := TX5) (N := 23) hx hb hts (by decide +kernel) hown hK hP 12 rfl rfl 3 (by decide) (hts (.fieldLink RX5 20 "SignFormsModel" "form" "[I") (by decide +kernel)) (fun _ h9 => h9) rfl dX5_findAll_118 ?_
    refine lv_iload_n hx hb dX5_findAll_121 rfl (lv_at hl 3 rfl) ?_
    refine lv_aload_n hx hb dX5_findAll_122 rfl (lv_at hl 2 rfl) ?_
    refine va_get (D := (dC, dI)) (ci := 4) (v := .int 6) (C := RX5) (T := TX5) (N := 23) hx hb hts (by decide +kernel) hown hK hP 12 rfl rfl 21 (by decide) (hts (.fieldLink RX5 86 "SignFormsModel" "partValue" "I") (by decide +kernel)) (fun _ h9 => h9) rfl dX5_findAll_123 ?_
    refine va_iast hx hb hK hP hD hS 3 3 rfl rfl (vp_in_iff.mpr (by omega)) dX5_findAll_126 (fun H locs hP hD hS => ?_)
    have hP : va_P (dC, dI) vwCl [(g1, .inl (kG1, 4, .inl (upd (fun _ => 0) (p0 : Int32).toNatClampNeg (vp_nar .boolean 1)))), (g2, .inl (kG2, 4, .inl (upd (fun _ => 0) (p0 : Int32).toNatClampNeg (vp_nar .boolean 0)))), (g3, .inl (kG3, 4, .inl (upd (fun _ => 0) (p0 : Int32).toNatClampNeg p1))), (g4, .inl (kG4, 4, .inl (upd (upd (fun _ => 0) (p0 : Int32).toNatClampNeg p1) (p0 : Int32).toNatClampNeg 6))), (g5, .inl (kG5, 4, .inl (upd (fun _ => 0) (p0 : Int32).toNatClampNeg p2))), (g7, .inl (kG6, 4, .inl (upd (fun _ => 0) (p0 : Int32).toNatClampNeg 0))), (g12, .inl (kG7, 4, .inl (upd (fun _ => 0) (p0 : Int32).toNatClampNeg 0))), (g13, .inl (kG8, 4, .inl (upd (fun _ => 0) (p0 : Int32).toNatClampNeg 0))), (g14, .inl (kG9, 4, .inl (upd (fun _ => 0) (p0 : Int32).toNatClampNeg 0))), (g15, .inl (kG10, 4, .inl (upd (fun _ => 0) (p0 : Int32).toNatClampNeg (-1)))), (g16, .inl (kG11, 4, .inl (upd (fun _ => 0) (p0 : Int32).toNatClampNeg (-1)))), (g17, .inl (kG12, 4, .inl (upd (fun _ => 0) (p0 : Int32).toNatClampNeg (vp_nar .boolean 0)))), (g0, .inr (4, [.ref g1, .ref g2, .ref g3, .ref g4, .ref g5, .ref g6, .ref g7, .ref g8, .ref g9, .ref g10, .ref g11, .ref g12, .ref g13, .ref g14, .ref g15, .ref g16, .ref g17, .ref g18, .int 0, .ref g19, .int 0, .int 6, .int 0]))] H := hP
    have hD : va_D A [(g1, .inl (kG1, 4, .inl (upd (fun _ => 0) (p0 : Int32).toNatClampNeg (vp_nar .boolean 1)))), (g2, .inl (kG2, 4, .inl (upd (fun _ => 0) (p0 : Int32).toNatClampNeg (vp_nar .boolean 0)))), (g3, .inl (kG3, 4, .inl (upd (fun _ => 0) (p0 : Int32).toNatClampNeg p1))), (g4, .inl (kG4, 4, .inl (upd (upd (fun _ => 0) (p0 : Int32).toNatClampNeg p1) (p0 : Int32).toNatClampNeg 6))), (g5, .inl (kG5, 4, .inl (upd (fun _ => 0) (p0 : Int32).toNatClampNeg p2))), (g7, .inl (kG6, 4, .inl (upd (fun _ => 0) (p0 : Int32).toNatClampNeg 0))), (g12, .inl (kG7, 4, .inl (upd (fun _ => 0) (p0 : Int32).toNatClampNeg 0))), (g13, .inl (kG8, 4, .inl (upd (fun _ => 0) (p0 : Int32).toNatClampNeg 0))), (g14, .inl (kG9, 4, .inl (upd (fun _ => 0) (p0 : Int32).toNatClampNeg 0))), (g15, .inl (kG10, 4, .inl (upd (fun _ => 0) (p0 : Int32).toNatClampNeg (-1)))), (g16, .inl (kG11, 4, .inl (upd (fun _ => 0) (p0 : Int32).toNatClampNeg (-1)))), (g17, .inl (kG12, 4, .inl (upd (fun _ => 0) (p0 : Int32).toNatClampNeg (vp_nar .boolean 0)))), (g0, .inr (4, [.ref g1, .ref g2, .ref g3, .ref g4, .ref g5, .ref g6, .ref g7, .ref g8, .ref g9, .ref g10, .ref g11, .ref g12, .ref g13, .ref g14, .ref g15, .ref g16, .ref g17, .ref g18, .int 0, .ref g19, .int 0, .int 6, .int 0]))] := hD
    refine lv_aload_n hx hb dX5_findAll_127 rfl (lv_at hl 2 rfl) ?_
    refine va_get (D := (dC, dI)) (ci := 4) (v := .ref g17) (C := RX5) (T := TX5) (N := 23) hx hb hts (by decide +kernel) hown hK hP 12 rfl rfl 16 (by decide) (hts (.fieldLink RX5 59 "SignFormsModel" "isMarked" "[Z") (by decide +kernel)) (fun _ h9 => h9) rfl dX5_findAll_128 ?_
    refine lv_iload_n hx hb dX5_findAll_131 rfl (lv_at hl 3 rfl) ?_
    refine lv_iload_n hx hb dX5_findAll_132 rfl (lv_at hl 0 rfl) ?_
    refine lv_if_le (tgt := 140) hx hb dX5_findAll_133 (by decide) (fun _ => ?_) (fun c_8 => False.elim (by revert c_8; decide))
    refine lv_iconst (v := 0) hx hb dX5_findAll_140 (by decide) ?_
    refine va_zast hx hb hK hP hD hS 11 11 rfl rfl (vp_in_iff.mpr (by omega)) dX5_findAll_141 (fun H locs hP hD hS => ?_)
    have hP : va_P (dC, dI) vwCl [(g1, .inl (kG1, 4, .inl (upd (fun _ => 0) (p0 : Int32).toNatClampNeg (vp_nar .boolean 1)))), (g2, .inl (kG2, 4, .inl (upd (fun _ => 0) (p0 : Int32).toNatClampNeg (vp_nar .boolean 0)))), (g3, .inl (kG3, 4, .inl (upd (fun _ => 0) (p0 : Int32).toNatClampNeg p1))), (g4, .inl (kG4, 4, .inl (upd (upd (fun _ => 0) (p0 : Int32).toNatClampNeg p1) (p0 : Int32).toNatClampNeg 6))), (g5, .inl (kG5, 4, .inl (upd (fun _ => 0) (p0 : Int32).toNatClampNeg p2))), (g7, .inl (kG6, 4, .inl (upd (fun _ => 0) (p0 : Int32).toNatClampNeg 0))), (g12, .inl (kG7, 4, .inl (upd (fun _ => 0) (p0 : Int32).toNatClampNeg 0))), (g13, .inl (kG8, 4, .inl (upd (fun _ => 0) (p0 : Int32).toNatClampNeg 0))), (g14, .inl (kG9, 4, .inl (upd (fun _ => 0) (p0 : Int32).toNatClampNeg 0))), (g15, .inl (kG10, 4, .inl (upd (fun _ => 0) (p0 : Int32).toNatClampNeg (-1)))), (g16, .inl (kG11, 4, .inl (upd (fun _ => 0) (p0 : Int32).toNatClampNeg (-1)))), (g17, .inl (kG12, 4, .inl (upd (upd (fun _ => 0) (p0 : Int32).toNatClampNeg (vp_nar .boolean 0)) (p0 : Int32).toNatClampNeg (vp_nar .boolean 0)))), (g0, .inr (4, [.ref g1, .ref g2, .ref g3, .ref g4, .ref g5, .ref g6, .ref g7, .ref g8, .ref g9, .ref g10, .ref g11, .ref g12, .ref g13, .ref g14, .ref g15, .ref g16, .ref g17, .ref g18, .int 0, .ref g19, .int 0, .int 6, .int 0]))] H := hP
    have hD : va_D A [(g1, .inl (kG1, 4, .inl (upd (fun _ => 0) (p0 : Int32).toNatClampNeg (vp_nar .boolean 1)))), (g2, .inl (kG2, 4, .inl (upd (fun _ => 0) (p0 : Int32).toNatClampNeg (vp_nar .boolean 0)))), (g3, .inl (kG3, 4, .inl (upd (fun _ => 0) (p0 : Int32).toNatClampNeg p1))), (g4, .inl (kG4, 4, .inl (upd (upd (fun _ => 0) (p0 : Int32).toNatClampNeg p1) (p0 : Int32).toNatClampNeg 6))), (g5, .inl (kG5, 4, .inl (upd (fun _ => 0) (p0 : Int32).toNatClampNeg p2))), (g7, .inl (kG6, 4, .inl (upd (fun _ => 0) (p0 : Int32).toNatClampNeg 0))), (g12, .inl (kG7, 4, .inl (upd (fun _ => 0) (p0 : Int32).toNatClampNeg 0))), (g13, .inl (kG8, 4, .inl (upd (fun _ => 0) (p0 : Int32).toNatClampNeg 0))), (g14, .inl (kG9, 4, .inl (upd (fun _ => 0) (p0 : Int32).toNatClampNeg 0))), (g15, .inl (kG10, 4, .inl (upd (fun _ => 0) (p0 : Int32).toNatClampNeg (-1)))), (g16, .inl (kG11, 4, .inl (upd (fun _ => 0) (p0 : Int32).toNatClampNeg (-1)))), (g17, .inl (kG12, 4, .inl (upd (upd (fun _ => 0) (p0 : Int32).toNatClampNeg (vp_nar .boolean 0)) (p0 : Int32).toNatClampNeg (vp_nar .boolean 0)))), (g0, .inr (4, [.ref g1, .ref g2, .ref g3, .ref g4, .ref g5, .ref g6, .ref g7, .ref g8, .ref g9, .ref g10, .ref g11, .ref g12, .ref g13, .ref g14, .ref g15, .ref g16, .ref g17, .ref g18, .int 0, .ref g19, .int 0, .int 6, .int 0]))] := hD
    refine lv_aload_n hx hb dX5_findAll_142 rfl (lv_at hl 2 rfl) ?_
    refine va_get (D := (dC, dI)) (ci := 4) (v := .ref g4) (C := RX5) (T := TX5) (N := 23) hx hb hts (by decide +kernel) hown hK hP 12 rfl rfl 3 (by decide) (hts (.fieldLink RX5 20 "SignFormsModel" "form" "[I") (by decide +kernel)) (fun _ h9 => h9) rfl dX5_findAll_143 ?_
    refine lv_iload_n hx hb dX5_findAll_146 rfl (lv_at hl 3 rfl) ?_
    refine va_iald hx hb hK hP 3 3 rfl rfl (vp_in_iff.mpr (by omega)) dX5_findAll_147 ?_
    refine W.eq (g2 := F0 m 148 ls [.int 6]) (by rw [pk_us]) ?_
    refine lv_bipush (v := 6) hx hb dX5_findAll_148 (by decide +kernel) ?_
    refine lv_icmp_ne (tgt := 154) hx hb dX5_findAll_150 (by decide) (fun c_9 => False.elim (by revert c_9; decide)) (fun _ => ?_)
    exact W.vret hx hb hr (fun t ht hW => ⟨⟨(), rfl, trivial, trivial⟩, hS.F ht⟩) hS.2.2 dX5_findAll_153
end
section
set_option maxHeartbeats 4000000 in
set_option maxRecDepth 100000 in
theorem kX4_open (l : Launch) (dC : Nat → ClassId) (dI : Nat → Nat → Nat) (h0 h1 h2 h4 : Nat) (kS : ClassId) (sz : Nat) (p0 p1 p2 : Int32) : Met l yX4_open wsX4_open ({ frames := 3, cells := 7, slots := 10019, locals := 52 } : Room) (va_Pc [.ref h0, .int p0, .int p1, .int p2] (fun U => U.heap.size = sz ∧ va_P (dC, dI) vwCl [(h0, .inr (3, [.ref h1, .ref h2, .ref h4])), (h1, .inl (kS, 4, .inr (.inr (.inr (.inr (fun _ => none))))))] U.heap ∧ va_K (dC, dI) vwCl [(kS, .object "SignForms$Stream")] U ∧ va_D (fun _ => True) [(h0, .inr (3, [.ref h1, .ref h2, .ref h4])), (h1, .inl (kS, 4, .inr (.inr (.inr (.inr (fun _ => none))))))] ∧ va_Nw (.methodLinkNest RX3 29 yX2_init "SignForms") U)) (va_Qi (fun (r : Int32) (_ : Unit) => (r = 1 ∧ (0 ≤ p0.toInt ∧ p0.toInt < 4 ∧ 0 ≤ p1.toInt ∧ p1.toInt ≤ 6 ∧ 0 ≤ p2.toInt ∧ p2.toInt ≤ 2)) ∨ (r = 0 ∧ ¬ (0 ≤ p0.toInt ∧ p0.toInt < 4 ∧ 0 ≤ p1.toInt ∧ p1.toInt ≤ 6 ∧ 0 ≤ p2.toInt ∧ p2.toInt ≤ 2))) (fun _ _ => True) (va_A [(h0, .inr (3, [.ref h1, .ref h2, .ref h4])), (h1, .inl (kS, 4, .inr (.inr (.inr (.inr (fun _ => none))))))] sz)) 7 10019 (va_A [(h0, .inr (3, [.ref h1, .ref h2, .ref h4])), (h1, .inl (kS, 4, .inr (.inr (.inr (.inr (fun _ => none))))))] sz) := by
  refine Met.ofW (cc := cX4_open) (maxL := 5) (ret := (some .boolean)) (by decide) rfl ?_
  intro p e s m args below meth c s₁ B hml hv
  obtain ⟨rfl, hsz, hP, hK, hD0, hN⟩ := hv
  have hx := B.exec
  have hb := B.bytes
  have hr := B.returns
  have hts := atoms_spec (ws := wsX4_open) B.pre
  have hown : s.vm.findClass RX4 = some m.cls := findClass_of_methodNamed B.named
  have hlocks := B.notSynchronized
  subst hsz
  have hD := hD0.self (sz := s.heap.size)
  generalize hAe : va_A [(h0, .inr (3, [.ref h1, .ref h2, .ref h4])), (h1, .inl (kS, 4, .inr (.inr (.inr (.inr (fun _ => none))))))] s.heap.size = A at hD ⊢
  have hA : ∀ q : Nat, s.heap.size ≤ q → A q := fun q h => by rw [← hAe]; exact Or.inr h
  have hS : va_S A s.heap s.heap [] := va_S.rf
  have hl := lv_entry ([.ref h0, .int p0, .int p1, .int p2]) (n := 5) (Nat.le_of_ble_eq_true rfl)
  rw [lg_entry_eq]
  generalize (lg_sl ([.ref h0, .int p0, .int p1, .int p2]) ++ List.replicate (5 - (lg_sl ([.ref h0, .int p0, .int p1, .int p2])).length) Slot.unset).toArray = ls at hl ⊢
  have hl : lv_has ls 5 [(0, .ref h0), (1, .int p0), (2, .int p1), (3, .int p2)] := hl
  refine lv_aload_n hx hb dX4_open_0 rfl (lv_at hl 0 rfl) ?_
  refine lv_iload_n hx hb dX4_open_1 rfl (lv_at hl 1 rfl) ?_
  have hPc := hP.sub (ws' := [(h0, .inr (3, [.ref h1, .ref h2, .ref h4])), (h1, .inl (kS, 4, .inr (.inr (.inr (.inr (fun _ => none))))))]) [0, 1] rfl
  have hKc := hK.sub (tys' := [(kS, .object "SignForms$Stream")]) [0] rfl
  refine vp_callSi (W.runV (As := [.int p0]) (rest := []) ⟨hx, hb, hml, hown, hts⟩ (kX4_isStream l dC dI h0 h1 h2 h4 kS p0) (cwV 1 hts gX4_open_X4_isStream rfl rfl rfl (by decide +kernel) ⟨Nat.le_of_ble_eq_true rfl, Nat.le_of_ble_eq_true rfl⟩) ⟨fun a U g mk q => by obtain ⟨q0, qP, qK⟩ := q; exact ⟨q0, qP, va_K.moved (u := U) (U := U.calling g mk a) (Vm.Alike.refl U.vm) qK⟩, va_recv hKc hPc (ci := 3) (q0 := 0) rfl rfl, fun U hU hW => ⟨rfl, by rw [hU]; exact hPc, va_K.moved hW.alike hKc⟩⟩ rfl rfl hl.1 rfl (lv_room (Nat.le_of_ble_eq_true rfl)) dX4_open_2 ⟨Nat.le_of_ble_eq_true rfl, Nat.le_of_ble_eq_true rfl⟩) (fun r_1 hwr_1 => ?_)
  rcases hwr_1 with ⟨rfl, hwr_1⟩ | ⟨rfl, hwr_1⟩
  · refine lv_if_eq (tgt := 18) hx hb dX4_open_5 (by decide) (fun c_2 => False.elim (by revert c_2; decide)) (fun _ => ?_)
    refine lv_iload_n hx hb dX4_open_8 rfl (lv_at hl 2 rfl) ?_
    refine lv_if_lt (tgt := 18) hx hb dX4_open_9 (by decide) (fun c_3 => ?_) (fun c_3 => ?_)
    · have zc_3 : p1.toInt < (0 : Int) := zz_lt rfl (by decide) c_3
      refine lv_iconst (v := 0) hx hb dX4_open_18 (by decide) ?_
      refine W.widen (k := 7) (n := 10019) (by omega) (by omega) ?_
      exact W.zret (v := 0) hx hb hr rfl (fun t ht hW => ⟨⟨0, (), rfl, Or.inr ⟨rfl, by omega⟩, trivial⟩, hS.F ht⟩) hS.2.2 dX4_open_19
    · have zc_3 : p1.toInt ≥ (0 : Int) := zz_nlt rfl (by decide) c_3
      refine lv_iload_n hx hb dX4_open_12 rfl (lv_at hl 2 rfl) ?_
      refine lv_bipush (v := 6) hx hb dX4_open_13 (by decide +kernel) ?_
      refine lv_icmp_le (tgt := 20) hx hb dX4_open_15 (by decide) (fun c_4 => ?_) (fun c_4 => ?_)
      · have zc_4 : p1.toInt ≤ (6 : Int) := zz_le rfl (by decide) c_4
        refine lv_iload_n hx hb dX4_open_20 rfl (lv_at hl 3 rfl) ?_
        refine lv_if_lt (tgt := 29) hx hb dX4_open_21 (by decide) (fun c_5 => ?_) (fun c_5 => ?_)
        · have zc_5 : p2.toInt < (0 : Int) := zz_lt rfl (by decide) c_5
          refine lv_iconst (v := 0) hx hb dX4_open_29 (by decide) ?_
          refine W.widen (k := 7) (n := 10019) (by omega) (by omega) ?_
          exact W.zret (v := 0) hx hb hr rfl (fun t ht hW => ⟨⟨0, (), rfl, Or.inr ⟨rfl, by omega⟩, trivial⟩, hS.F ht⟩) hS.2.2 dX4_open_30
        · have zc_5 : p2.toInt ≥ (0 : Int) := zz_nlt rfl (by decide) c_5
          refine lv_iload_n hx hb dX4_open_24 rfl (lv_at hl 3 rfl) ?_
          refine lv_iconst (v := 2) hx hb dX4_open_25 (by decide) ?_
          refine lv_icmp_le (tgt := 31) hx hb dX4_open_26 (by decide) (fun c_6 => ?_) (fun c_6 => ?_)
          · have zc_6 : p2.toInt ≤ (2 : Int) := zz_le rfl (by decide) c_6
            refine lv_aload_n hx hb dX4_open_31 rfl (lv_at hl 0 rfl) ?_
            refine va_get (D := (dC, dI)) (ci := 3) (v := .ref h1) (C := RX4) (T := TX4) (N := 3) hx hb hts (by decide +kernel) hown hK hP 0 rfl rfl 0 (by decide) (hts (.fieldLink RX4 11 "SignForms" "streams" "[LSignForms$Stream;") (by decide +kernel)) (fun _ h9 => h9) rfl dX4_open_32 ?_
            refine lv_iload_n hx hb dX4_open_35 rfl (lv_at hl 1 rfl) ?_
            refine va_aldq hx hb hK hP 1 0 rfl rfl (vp_in_iff.mpr (by omega)) dX4_open_36 ?_
            refine W.eq (g2 := F0 m 37 ls [.null]) rfl ?_
            refine lv_astoreN (lv' := [(4, .null), (0, .ref h0), (1, .int p0), (2, .int p1), (3, .int p2)]) hx hb dX4_open_37 hl (by decide) rfl (fun ls hl => ?_)
            refine lv_aloadN hx hb dX4_open_39 (lv_at hl 0 rfl) ?_
            refine lv_ifnonnullN hx hb dX4_open_41 ?_
            refine va_new (ci := 2) (fs := [.null, .null, .null, .null, .null, .null, .int 0, .int 0, .int 0, .int 0, .int 0, .int 0, .int 0, .int 0, .int 0, .int 0]) (C := RX3) (T := TX3) (N := 16) hx hb hts (by decide +kernel) tyX3 tyX3_ok hown (hts (.classLink RX4 9 RX3) (by decide +kernel)) (hts (.instantiable RX3 16) (by decide +kernel)) (hts (.initialized RX3) (by decide +kernel)) hK hP hD hS hA rfl (fun j hj => by rcases (show j = 0 ∨ j = 1 ∨ j = 2 ∨ j = 3 ∨ j = 4 ∨ j = 5 ∨ j = 6 ∨ j = 7 ∨ j = 8 ∨ j = 9 ∨ j = 10 ∨ j = 11 ∨ j = 12 ∨ j = 13 ∨ j = 14 ∨ j = 15 by omega) with rfl | rfl | rfl | rfl | rfl | rfl | rfl | rfl | rfl | rfl | rfl | rfl | rfl | rfl | rfl | rfl <;> rfl) (Nat.le_of_ble_eq_true rfl) (Nat.le_of_ble_eq_true rfl) dX4_open_44 (fun q_7 H hP hD hS => ?_)
            have hP : va_P (dC, dI) vwCl [(h0, .inr (3, [.ref h1, .ref h2, .ref h4])), (h1, .inl (kS, 4, .inr (.inr (.inr (.inr (fun _ => none)))))), (q_7, .inr (2, [.null, .null, .null, .null, .null, .null, .int 0, .int 0, .int 0, .int 0, .int 0, .int 0, .int 0, .int 0, .int 0, .int 0]))] H := hP
            have hD : va_D A [(h0, .inr (3, [.ref h1, .ref h2, .ref h4])), (h1, .inl (kS, 4, .inr (.inr (.inr (.inr (fun _ => none)))))), (q_7, .inr (2, [.null, .null, .null, .null, .null, .null, .int 0, .int 0, .int 0, .int 0, .int 0, .int 0, .int 0, .int 0, .int 0, .int 0]))] := hD
            refine W.widen (k := 1) (n := 16) (by omega) (by omega) ?_
            refine lv_dup hx hb dX4_open_47 rfl ?_
            have hPc := hP.sub (ws' := [(q_7, .inr (2, [.null, .null, .null, .null, .null, .null, .int 0, .int 0, .int 0, .int 0, .int 0, .int 0, .int 0, .int 0, .int 0, .int 0]))]) [2] rfl
            have hKc := hK.sub (tys' := []) [] rfl
            have hDc := hD.sub (ws' := [(q_7, .inr (2, [.null, .null, .null, .null, .null, .null, .int 0, .int 0, .int 0, .int 0, .int 0, .int 0, .int 0, .int 0, .int 0, .int 0]))]) [2] (by decide) rfl
            have hFc := va_free (wc := [(q_7, .inr (2, [.null, .null, .null, .null, .null, .null, .int 0, .int 0, .int 0, .int 0, .int 0, .int 0, .int 0, .int 0, .int 0, .int 0]))]) hD hS hA [2] rfl
            refine va_callv (va_runI (As := []) (rest := [.ref q_7]) ⟨hx, hb, hml, hown, hts⟩ (kX3_init l dC dI q_7 H.size) (cwI 0 hts gX4_open_X3_init rfl rfl rfl (hts (.initialized RX3) (by decide +kernel)) (hts (.methodLink RX4 33 yX3_init) (by decide +kernel)) (hts (.instanceMethod yX3_init) (by decide +kernel)) rfl (by decide +kernel) ⟨Nat.le_of_ble_eq_true rfl, Nat.le_of_ble_eq_true rfl⟩) ⟨fun a U g mk q => by obtain ⟨q0, q1, qP, qK, qD, qn0⟩ := q; exact ⟨q0, q1, qP, va_K.moved (u := U) (U := U.calling g mk a) (Vm.Alike.refl U.vm) qK, qD, va_Nw.same (u := U) (U := U.calling g mk a) rfl rfl qn0⟩, fun U hU hW => ⟨rfl, by rw [hU], by rw [hU]; exact hPc, va_K.moved hW.alike hKc, hDc.weaken (fun _ _ _ _ => trivial), va_Nw.warmM hW hN⟩⟩ rfl rfl hl.1 rfl (lv_room (Nat.le_of_ble_eq_true rfl)) dX4_open_48 ⟨Nat.le_of_ble_eq_true rfl, Nat.le_of_ble_eq_true rfl⟩) hS (fun q _ h => hFc q h) hFc (fun u t H1 locs ht hvm hwr_8 hB hz1 hk1 hS => ?_)
            obtain ⟨q_9, q_10, q_11, q_12, q_13, q_14, hP1, hK1, hD1⟩ := hB
            rw [ht] at hP1
            obtain ⟨hP, hD⟩ := va_join (wr := [(h0, .inr (3, [.ref h1, .ref h2, .ref h4])), (h1, .inl (kS, 4, .inr (.inr (.inr (.inr (fun _ => none))))))]) (w1 := [(q_7, .inr (2, [.ref q_9, .ref q_10, .ref q_11, .ref q_12, .ref q_13, .ref q_14, .int 0, .int 0, .int 0, .int 0, .int 0, .int 0, .int 0, .int 0, .int 0, .int 0]))]) hP hD [2] [0, 1] rfl rfl (by decide) (by decide) hk1 hFc hP1 hD1
            generalize H1 = H at hP hS ⊢
            have hP : va_P (dC, dI) vwCl [(h0, .inr (3, [.ref h1, .ref h2, .ref h4])), (h1, .inl (kS, 4, .inr (.inr (.inr (.inr (fun _ => none)))))), (q_7, .inr (2, [.ref q_9, .ref q_10, .ref q_11, .ref q_12, .ref q_13, .ref q_14, .int 0, .int 0, .int 0, .int 0, .int 0, .int 0, .int 0, .int 0, .int 0, .int 0]))] H := hP
            have hD : va_D A [(h0, .inr (3, [.ref h1, .ref h2, .ref h4])), (h1, .inl (kS, 4, .inr (.inr (.inr (.inr (fun _ => none)))))), (q_7, .inr (2, [.ref q_9, .ref q_10, .ref q_11, .ref q_12, .ref q_13, .ref q_14, .int 0, .int 0, .int 0, .int 0, .int 0, .int 0, .int 0, .int 0, .int 0, .int 0]))] := hD
            refine W.widen (k := 7) (n := 10019) (by omega) (by omega) ?_
            refine lv_astore (lv' := [(4, .ref q_7), (0, .ref h0), (1, .int p0), (2, .int p1), (3, .int p2)]) hx hb dX4_open_51 hl (by decide) rfl (fun ls hl => ?_)
            refine lv_aload_n hx hb dX4_open_53 rfl (lv_at hl 1 rfl) ?_
            refine va_get (D := (dC, dI)) (ci := 3) (v := .ref h1) (C := RX4) (T := TX4) (N := 3) hx hb hts (by decide +kernel) hown hK hP 0 rfl rfl 0 (by decide) (hts (.fieldLink RX4 11 "SignForms" "streams" "[LSignForms$Stream;") (by decide +kernel)) (fun _ h9 => h9) rfl dX4_open_54 ?_
            refine lv_iload_n hx hb dX4_open_57 rfl (lv_at hl 2 rfl) ?_
            refine lv_aload hx hb dX4_open_58 (lv_at hl 0 rfl) ?_
            refine va_astq hx hb hK hP hD hS 1 0 2 2 rfl rfl rfl rfl (vp_in_iff.mpr (by omega)) dX4_open_60 (fun H locs hP hD hS => ?_)
            have hP : va_P (dC, dI) vwCl [(h0, .inr (3, [.ref h1, .ref h2, .ref h4])), (h1, .inl (kS, 4, .inr (.inr (.inr (.inr (va_up (fun _ => none) (p0).toNatClampNeg (some q_7))))))), (q_7, .inr (2, [.ref q_9, .ref q_10, .ref q_11, .ref q_12, .ref q_13, .ref q_14, .int 0, .int 0, .int 0, .int 0, .int 0, .int 0, .int 0, .int 0, .int 0, .int 0]))] H := hP
            have hD : va_D A [(h0, .inr (3, [.ref h1, .ref h2, .ref h4])), (h1, .inl (kS, 4, .inr (.inr (.inr (.inr (va_up (fun _ => none) (p0).toNatClampNeg (some q_7))))))), (q_7, .inr (2, [.ref q_9, .ref q_10, .ref q_11, .ref q_12, .ref q_13, .ref q_14, .int 0, .int 0, .int 0, .int 0, .int 0, .int 0, .int 0, .int 0, .int 0, .int 0]))] := hD
            refine lv_aload hx hb dX4_open_61 (lv_at hl 0 rfl) ?_
            refine lv_iload_n hx hb dX4_open_63 rfl (lv_at hl 3 rfl) ?_
            refine lv_iload_n hx hb dX4_open_64 rfl (lv_at hl 4 rfl) ?_
            have hPc := hP.sub (ws' := [(q_7, .inr (2, [.ref q_9, .ref q_10, .ref q_11, .ref q_12, .ref q_13, .ref q_14, .int 0, .int 0, .int 0, .int 0, .int 0, .int 0, .int 0, .int 0, .int 0, .int 0]))]) [2] rfl
            have hKc := hK.sub (tys' := []) [] rfl
            have hDc := hD.sub (ws' := [(q_7, .inr (2, [.ref q_9, .ref q_10, .ref q_11, .ref q_12, .ref q_13, .ref q_14, .int 0, .int 0, .int 0, .int 0, .int 0, .int 0, .int 0, .int 0, .int 0, .int 0]))]) [2] (by decide) rfl
            have hFc := va_free (wc := [(q_7, .inr (2, [.ref q_9, .ref q_10, .ref q_11, .ref q_12, .ref q_13, .ref q_14, .int 0, .int 0, .int 0, .int 0, .int 0, .int 0, .int 0, .int 0, .int 0, .int 0]))]) hD hS hA [2] rfl
            refine va_callv (va_runV (As := [.int p1, .int p2]) (rest := []) ⟨hx, hb, hml, hown, hts⟩ (kX3_begin l dC dI q_7 q_9 q_10 q_11 q_12 q_13 q_14 H.size p1 p2) (cwV 2 hts gX4_open_X3_begin rfl rfl rfl (by decide +kernel) ⟨Nat.le_of_ble_eq_true rfl, Nat.le_of_ble_eq_true rfl⟩) ⟨fun a U g mk q => by obtain ⟨q0, q1, qP, qK, qD⟩ := q; exact ⟨q0, q1, qP, va_K.moved (u := U) (U := U.calling g mk a) (Vm.Alike.refl U.vm) qK, qD⟩, va_recv hKc hPc (ci := 2) (q0 := 0) rfl rfl, fun U hU hW => ⟨rfl, by rw [hU], by rw [hU]; exact hPc, va_K.moved hW.alike hKc, hDc.weaken (fun _ _ _ _ => trivial)⟩⟩ rfl rfl hl.1 rfl (lv_room (Nat.le_of_ble_eq_true rfl)) dX4_open_65 ⟨Nat.le_of_ble_eq_true rfl, Nat.le_of_ble_eq_true rfl⟩) hS (fun q _ h => hFc q h) hFc (fun u t H1 locs ht hvm hwr_15 hB hz1 hk1 hS => ?_)
            have hP1 : va_P (dC, dI) vwCl [] t.heap := fun k q h => by simp at h
            have hD1 : va_D (va_A [(q_7, .inr (2, [.ref q_9, .ref q_10, .ref q_11, .ref q_12, .ref q_13, .ref q_14, .int 0, .int 0, .int 0, .int 0, .int 0, .int 0, .int 0, .int 0, .int 0, .int 0]))] H.size) [] := ⟨fun i j p q h => by simp at h, fun k q h => by simp at h⟩
            rw [ht] at hP1
            obtain ⟨hP, hD⟩ := va_join (wr := [(h0, .inr (3, [.ref h1, .ref h2, .ref h4])), (h1, .inl (kS, 4, .inr (.inr (.inr (.inr (va_up (fun _ => none) (p0).toNatClampNeg (some q_7)))))))]) (w1 := []) hP hD [2] [0, 1] rfl rfl (by decide) (by decide) hk1 hFc hP1 hD1
            generalize H1 = H at hP hS ⊢
            have hP : va_P (dC, dI) vwCl [(h0, .inr (3, [.ref h1, .ref h2, .ref h4])), (h1, .inl (kS, 4, .inr (.inr (.inr (.inr (va_up (fun _ => none) (p0).toNatClampNeg (some q_7)))))))] H := hP
            have hD : va_D A [(h0, .inr (3, [.ref h1, .ref h2, .ref h4])), (h1, .inl (kS, 4, .inr (.inr (.inr (.inr (va_up (fun _ => none) (p0).toNatClampNeg (some q_7)))))))] := hD
            refine lv_iconst (v := 1) hx hb dX4_open_68 (by decide) ?_
            refine W.widen (k := 7) (n := 10019) (by omega) (by omega) ?_
            exact W.zret (v := 1) hx hb hr rfl (fun t ht hW => ⟨⟨1, (), rfl, Or.inl ⟨rfl, by omega⟩, trivial⟩, hS.F ht⟩) hS.2.2 dX4_open_69
          · have zc_6 : p2.toInt > (2 : Int) := zz_nle rfl (by decide) c_6
            refine lv_iconst (v := 0) hx hb dX4_open_29 (by decide) ?_
            refine W.widen (k := 7) (n := 10019) (by omega) (by omega) ?_
            exact W.zret (v := 0) hx hb hr rfl (fun t ht hW => ⟨⟨0, (), rfl, Or.inr ⟨rfl, by omega⟩, trivial⟩, hS.F ht⟩) hS.2.2 dX4_open_30
      · have zc_4 : p1.toInt > (6 : Int) := zz_nle rfl (by decide) c_4
        refine lv_iconst (v := 0) hx hb dX4_open_18 (by decide) ?_
        refine W.widen (k := 7) (n := 10019) (by omega) (by omega) ?_
        exact W.zret (v := 0) hx hb hr rfl (fun t ht hW => ⟨⟨0, (), rfl, Or.inr ⟨rfl, by omega⟩, trivial⟩, hS.F ht⟩) hS.2.2 dX4_open_19
  · refine lv_if_eq (tgt := 18) hx hb dX4_open_5 (by decide) (fun _ => ?_) (fun c_16 => False.elim (by revert c_16; decide))
    refine lv_iconst (v := 0) hx hb dX4_open_18 (by decide) ?_
    refine W.widen (k := 7) (n := 10019) (by omega) (by omega) ?_
    exact W.zret (v := 0) hx hb hr rfl (fun t ht hW => ⟨⟨0, (), rfl, Or.inr ⟨rfl, by omega⟩, trivial⟩, hS.F ht⟩) hS.2.2 dX4_open_19
end
section
set_option maxHeartbeats 4000000 in
set_option maxRecDepth 100000 in
theorem kX5_open (l : Launch) (dC : Nat → ClassId) (dI : Nat → Nat → Nat) (g0 g1 g2 g3 g4 g5 g6 g7 g8 g9 g10 g11 g12 g13 g14 g15 g16 g17 g18 g19 : Nat) (kG1 kG2 kG3 kG4 kG5 kG6 kG7 kG8 kG9 kG10 kG11 kG12 : ClassId) (sz : Nat) (p0 p1 p2 : Int32) : Met l yX5_open wsX5_open ({ frames := 3, cells := 0, slots := 0, locals := 78 } : Room) (va_Pc [.ref g0, .int p0, .int p1, .int p2] (fun U => U.heap.size = sz ∧ va_P (dC, dI) vwCl [(g0, .inr (4, [.ref g1, .ref g2, .ref g3, .ref g4, .ref g5, .ref g6, .ref g7, .ref g8, .ref g9, .ref g10, .ref g11, .ref g12, .ref g13, .ref g14, .ref g15, .ref g16, .ref g17, .ref g18, .int 0, .ref g19, .int 0, .int 0, .int 0])), (g1, .inl (kG1, 4, .inl (fun _ => 0))), (g2, .inl (kG2, 4, .inl (fun _ => 0))), (g3, .inl (kG3, 4, .inl (fun _ => 0))), (g4, .inl (kG4, 4, .inl (fun _ => 0))), (g5, .inl (kG5, 4, .inl (fun _ => 0))), (g7, .inl (kG6, 4, .inl (fun _ => 0))), (g12, .inl (kG7, 4, .inl (fun _ => 0))), (g13, .inl (kG8, 4, .inl (fun _ => 0))), (g14, .inl (kG9, 4, .inl (fun _ => 0))), (g15, .inl (kG10, 4, .inl (fun _ => 0))), (g16, .inl (kG11, 4, .inl (fun _ => 0))), (g17, .inl (kG12, 4, .inl (fun _ => 0)))] U.heap ∧ va_K (dC, dI) vwCl [(kG1, .boolean), (kG2, .boolean), (kG3, .int), (kG4, .int), (kG5, .int), (kG6, .int), (kG7, .int), (kG8, .int), (kG9, .int), (kG10, .int), (kG11, .int), (kG12, .boolean)] U ∧ va_D (fun _ => True) [(g0, .inr (4, [.ref g1, .ref g2, .ref g3, .ref g4, .ref g5, .ref g6, .ref g7, .ref g8, .ref g9, .ref g10, .ref g11, .ref g12, .ref g13, .ref g14, .ref g15, .ref g16, .ref g17, .ref g18, .int 0, .ref g19, .int 0, .int 0, .int 0])), (g1, .inl (kG1, 4, .inl (fun _ => 0))), (g2, .inl (kG2, 4, .inl (fun _ => 0))), (g3, .inl (kG3, 4, .inl (fun _ => 0))), (g4, .inl (kG4, 4, .inl (fun _ => 0))), (g5, .inl (kG5, 4, .inl (fun _ => 0))), (g7, .inl (kG6, 4, .inl (fun _ => 0))), (g12, .inl (kG7, 4, .inl (fun _ => 0))), (g13, .inl (kG8, 4, .inl (fun _ => 0))), (g14, .inl (kG9, 4, .inl (fun _ => 0))), (g15, .inl (kG10, 4, .inl (fun _ => 0))), (g16, .inl (kG11, 4, .inl (fun _ => 0))), (g17, .inl (kG12, 4, .inl (fun _ => 0)))])) (va_Qi (fun (r : Int32) (_ : Unit) => (r = 1 ∧ (0 ≤ p0.toInt ∧ p0.toInt < 4 ∧ 0 ≤ p1.toInt ∧ p1.toInt ≤ 6 ∧ 0 ≤ p2.toInt ∧ p2.toInt ≤ 2)) ∨ (r = 0 ∧ ¬ (0 ≤ p0.toInt ∧ p0.toInt < 4 ∧ 0 ≤ p1.toInt ∧ p1.toInt ≤ 6 ∧ 0 ≤ p2.toInt ∧ p2.toInt ≤ 2))) (fun _ _ => True) (va_A [(g0, .inr (4, [.ref g1, .ref g2, .ref g3, .ref g4, .ref g5, .ref g6, .ref g7, .ref g8, .ref g9, .ref g10, .ref g11, .ref g12, .ref g13, .ref g14, .ref g15, .ref g16, .ref g17, .ref g18, .int 0, .ref g19, .int 0, .int 0, .int 0])), (g1, .inl (kG1, 4, .inl (fun _ => 0))), (g2, .inl (kG2, 4, .inl (fun _ => 0))), (g3, .inl (kG3, 4, .inl (fun _ => 0))), (g4, .inl (kG4, 4, .inl (fun _ => 0))), (g5, .inl (kG5, 4, .inl (fun _ => 0))), (g7, .inl (kG6, 4, .inl (fun _ => 0))), (g12, .inl (kG7, 4, .inl (fun _ => 0))), (g13, .inl (kG8, 4, .inl (fun _ => 0))), (g14, .inl (kG9, 4, .inl (fun _ => 0))), (g15, .inl (kG10, 4, .inl (fun _ => 0))), (g16, .inl (kG11, 4, .inl (fun _ => 0))), (g17, .inl (kG12, 4, .inl (fun _ => 0)))] sz)) 0 0 (va_A [(g0, .inr (4, [.ref g1, .ref g2, .ref g3, .ref g4, .ref g5, .ref g6, .ref g7, .ref g8, .ref g9, .ref g10, .ref g11, .ref g12, .ref g13, .ref g14, .ref g15, .ref g16, .ref g17, .ref g18, .int 0, .ref g19, .int 0, .int 0, .int 0])), (g1, .inl (kG1, 4, .inl (fun _ => 0))), (g2, .inl (kG2, 4, .inl (fun _ => 0))), (g3, .inl (kG3, 4, .inl (fun _ => 0))), (g4, .inl (kG4, 4, .inl (fun _ => 0))), (g5, .inl (kG5, 4, .inl (fun _ => 0))), (g7, .inl (kG6, 4, .inl (fun _ => 0))), (g12, .inl (kG7, 4, .inl (fun _ => 0))), (g13, .inl (kG8, 4, .inl (fun _ => 0))), (g14, .inl (kG9, 4, .inl (fun _ => 0))), (g15, .inl (kG10, 4, .inl (fun _ => 0))), (g16, .inl (kG11, 4, .inl (fun _ => 0))), (g17, .inl (kG12, 4, .inl (fun _ => 0)))] sz) := by
  refine Met.ofW (cc := cX5_open) (maxL := 4) (ret := (some .boolean)) (by decide) rfl ?_
  intro p e s m args below meth c s₁ B hml hv
  obtain ⟨rfl, hsz, hP, hK, hD0⟩ := hv
  have hx := B.exec
  have hb := B.bytes
  have hr := B.returns
  have hts := atoms_spec (ws := wsX5_open) B.pre
  have hown : s.vm.findClass RX5 = some m.cls := findClass_of_methodNamed B.named
  have hlocks := B.notSynchronized
  subst hsz
  have hD := hD0.self (sz := s.heap.size)
  generalize hAe : va_A [(g0, .inr (4, [.ref g1, .ref g2, .ref g3, .ref g4, .ref g5, .ref g6, .ref g7, .ref g8, .ref g9, .ref g10, .ref g11, .ref g12, .ref g13, .ref g14, .ref g15, .ref g16, .ref g17, .ref g18, .int 0, .ref g19, .int 0, .int 0, .int 0])), (g1, .inl (kG1, 4, .inl (fun _ => 0))), (g2, .inl (kG2, 4, .inl (fun _ => 0))), (g3, .inl (kG3, 4, .inl (fun _ => 0))), (g4, .inl (kG4, 4, .inl (fun _ => 0))), (g5, .inl (kG5, 4, .inl (fun _ => 0))), (g7, .inl (kG6, 4, .inl (fun _ => 0))), (g12, .inl (kG7, 4, .inl (fun _ => 0))), (g13, .inl (kG8, 4, .inl (fun _ => 0))), (g14, .inl (kG9, 4, .inl (fun _ => 0))), (g15, .inl (kG10, 4, .inl (fun _ => 0))), (g16, .inl (kG11, 4, .inl (fun _ => 0))), (g17, .inl (kG12, 4, .inl (fun _ => 0)))] s.heap.size = A at hD ⊢
  have hA : ∀ q : Nat, s.heap.size ≤ q → A q := fun q h => by rw [← hAe]; exact Or.inr h
  have hS : va_S A s.heap s.heap [] := va_S.rf
  have hl := lv_entry ([.ref g0, .int p0, .int p1, .int p2]) (n := 4) (Nat.le_of_ble_eq_true rfl)
  rw [lg_entry_eq]
  generalize (lg_sl ([.ref g0, .int p0, .int p1, .int p2]) ++ List.replicate (4 - (lg_sl ([.ref g0, .int p0, .int p1, .int p2])).length) Slot.unset).toArray = ls at hl ⊢
  have hl : lv_has ls 4 [(0, .ref g0), (1, .int p0), (2, .int p1), (3, .int p2)] := hl
  refine lv_iload_n hx hb dX5_open_0 rfl (lv_at hl 1 rfl) ?_
  refine vp_callSi (W.runS (As := [.int p0]) (rest := []) ⟨hx, hb, hml, hown, hts⟩ (kX5_isStream l p0) (va_cwS 1 hts gX5_open_X5_isStream rfl rfl rfl (by decide +kernel) ⟨Nat.le_of_ble_eq_true rfl, Nat.le_of_ble_eq_true rfl⟩) ⟨fun a U g mk q => q, fun U hU hW => ⟨rfl, trivial⟩⟩ rfl rfl hl.1 rfl (lv_room (Nat.le_of_ble_eq_true rfl)) dX5_open_1 ⟨Nat.le_of_ble_eq_true rfl, Nat.le_of_ble_eq_true rfl⟩) (fun r_1 hwr_1 => ?_)
  rcases hwr_1 with ⟨rfl, hwr_1⟩ | ⟨rfl, hwr_1⟩
  · refine lv_if_eq (tgt := 26) hx hb dX5_open_4 (by decide) (fun c_2 => False.elim (by revert c_2; decide)) (fun _ => ?_)
    refine lv_iload_n hx hb dX5_open_7 rfl (lv_at hl 2 rfl) ?_
    refine lv_if_lt (tgt := 26) hx hb dX5_open_8 (by decide) (fun c_3 => ?_) (fun c_3 => ?_)
    · have zc_3 : p1.toInt < (0 : Int) := zz_lt rfl (by decide) c_3
      refine lv_iconst (v := 0) hx hb dX5_open_26 (by decide) ?_
      exact W.zret (v := 0) hx hb hr rfl (fun t ht hW => ⟨⟨0, (), rfl, Or.inr ⟨rfl, by omega⟩, trivial⟩, hS.F ht⟩) hS.2.2 dX5_open_27
    · have zc_3 : p1.toInt ≥ (0 : Int) := zz_nlt rfl (by decide) c_3
      refine lv_iload_n hx hb dX5_open_11 rfl (lv_at hl 2 rfl) ?_
      refine lv_bipush (v := 6) hx hb dX5_open_12 (by decide +kernel) ?_
      refine lv_icmp_gt (tgt := 26) hx hb dX5_open_14 (by decide) (fun c_4 => ?_) (fun c_4 => ?_)
      · have zc_4 : (6 : Int) < p1.toInt := zz_lt (by decide) rfl c_4
        refine lv_iconst (v := 0) hx hb dX5_open_26 (by decide) ?_
        exact W.zret (v := 0) hx hb hr rfl (fun t ht hW => ⟨⟨0, (), rfl, Or.inr ⟨rfl, by omega⟩, trivial⟩, hS.F ht⟩) hS.2.2 dX5_open_27
      · have zc_4 : (6 : Int) ≥ p1.toInt := zz_nlt (by decide) rfl c_4
        refine lv_iload_n hx hb dX5_open_17 rfl (lv_at hl 3 rfl) ?_
        refine lv_if_lt (tgt := 26) hx hb dX5_open_18 (by decide) (fun c_5 => ?_) (fun c_5 => ?_)
        · have zc_5 : p2.toInt < (0 : Int) := zz_lt rfl (by decide) c_5
          refine lv_iconst (v := 0) hx hb dX5_open_26 (by decide) ?_
          exact W.zret (v := 0) hx hb hr rfl (fun t ht hW => ⟨⟨0, (), rfl, Or.inr ⟨rfl, by omega⟩, trivial⟩, hS.F ht⟩) hS.2.2 dX5_open_27
        · have zc_5 : p2.toInt ≥ (0 : Int) := zz_nlt rfl (by decide) c_5
          refine lv_iload_n hx hb dX5_open_21 rfl (lv_at hl 3 rfl) ?_
          refine lv_iconst (v := 2) hx hb dX5_open_22 (by decide) ?_
          refine lv_icmp_le (tgt := 28) hx hb dX5_open_23 (by decide) (fun c_6 => ?_) (fun c_6 => ?_)
          · have zc_6 : p2.toInt ≤ (2 : Int) := zz_le rfl (by decide) c_6
            refine lv_aload_n hx hb dX5_open_28 rfl (lv_at hl 0 rfl) ?_
            refine va_get (D := (dC, dI)) (ci := 4) (v := .ref g1) (C := RX5) (T := TX5) (N := 23) hx hb hts (by decide +kernel) hown hK hP 0 rfl rfl 0 (by decide) (hts (.fieldLink RX5 7 "SignFormsModel" "isOpen" "[Z") (by decide +kernel)) (fun _ h9 => h9) rfl dX5_open_29 ?_
            refine lv_iload_n hx hb dX5_open_32 rfl (lv_at hl 1 rfl) ?_
            refine lv_iconst (v := 1) hx hb dX5_open_33 (by decide) ?_
            refine va_zast hx hb hK hP hD hS 1 0 rfl rfl (vp_in_iff.mpr (by omega)) dX5_open_34 (fun H locs hP hD hS => ?_)
            have hP : va_P (dC, dI) vwCl [(g0, .inr (4, [.ref g1, .ref g2, .ref g3, .ref g4, .ref g5, .ref g6, .ref g7, .ref g8, .ref g9, .ref g10, .ref g11, .ref g12, .ref g13, .ref g14, .ref g15, .ref g16, .ref g17, .ref g18, .int 0, .ref g19, .int 0, .int 0, .int 0])), (g1, .inl (kG1, 4, .inl (upd (fun _ => 0) (p0 : Int32).toNatClampNeg (vp_nar .boolean 1)))), (g2, .inl (kG2, 4, .inl (fun _ => 0))), (g3, .inl (kG3, 4, .inl (fun _ => 0))), (g4, .inl (kG4, 4, .inl (fun _ => 0))), (g5, .inl (kG5, 4, .inl (fun _ => 0))), (g7, .inl (kG6, 4, .inl (fun _ => 0))), (g12, .inl (kG7, 4, .inl (fun _ => 0))), (g13, .inl (kG8, 4, .inl (fun _ => 0))), (g14, .inl (kG9, 4, .inl (fun _ => 0))), (g15, .inl (kG10, 4, .inl (fun _ => 0))), (g16, .inl (kG11, 4, .inl (fun _ => 0))), (g17, .inl (kG12, 4, .inl (fun _ => 0)))] H := hP
            have hD : va_D A [(g0, .inr (4, [.ref g1, .ref g2, .ref g3, .ref g4, .ref g5, .ref g6, .ref g7, .ref g8, .ref g9, .ref g10, .ref g11, .ref g12, .ref g13, .ref g14, .ref g15, .ref g16, .ref g17, .ref g18, .int 0, .ref g19, .int 0, .int 0, .int 0])), (g1, .inl (kG1, 4, .inl (upd (fun _ => 0) (p0 : Int32).toNatClampNeg (vp_nar .boolean 1)))), (g2, .inl (kG2, 4, .inl (fun _ => 0))), (g3, .inl (kG3, 4, .inl (fun _ => 0))), (g4, .inl (kG4, 4, .inl (fun _ => 0))), (g5, .inl (kG5, 4, .inl (fun _ => 0))), (g7, .inl (kG6, 4, .inl (fun _ => 0))), (g12, .inl (kG7, 4, .inl (fun _ => 0))), (g13, .inl (kG8, 4, .inl (fun _ => 0))), (g14, .inl (kG9, 4, .inl (fun _ => 0))), (g15, .inl (kG10, 4, .inl (fun _ => 0))), (g16, .inl (kG11, 4, .inl (fun _ => 0))), (g17, .inl (kG12, 4, .inl (fun _ => 0)))] := hD
            refine lv_aload_n hx hb dX5_open_35 rfl (lv_at hl 0 rfl) ?_
            refine va_get (D := (dC, dI)) (ci := 4) (v := .ref g2) (C := RX5) (T := TX5) (N := 23) hx hb hts (by decide +kernel) hown hK hP 0 rfl rfl 1 (by decide) (hts (.fieldLink RX5 13 "SignFormsModel" "isEnded" "[Z") (by decide +kernel)) (fun _ h9 => h9) rfl dX5_open_36 ?_
            refine lv_iload_n hx hb dX5_open_39 rfl (lv_at hl 1 rfl) ?_
            refine lv_iconst (v := 0) hx hb dX5_open_40 (by decide) ?_
            refine va_zast hx hb hK hP hD hS 2 1 rfl rfl (vp_in_iff.mpr (by omega)) dX5_open_41 (fun H locs hP hD hS => ?_)
            have hP : va_P (dC, dI) vwCl [(g0, .inr (4, [.ref g1, .ref g2, .ref g3, .ref g4, .ref g5, .ref g6, .ref g7, .ref g8, .ref g9, .ref g10, .ref g11, .ref g12, .ref g13, .ref g14, .ref g15, .ref g16, .ref g17, .ref g18, .int 0, .ref g19, .int 0, .int 0, .int 0])), (g1, .inl (kG1, 4, .inl (upd (fun _ => 0) (p0 : Int32).toNatClampNeg (vp_nar .boolean 1)))), (g2, .inl (kG2, 4, .inl (upd (fun _ => 0) (p0 : Int32).toNatClampNeg (vp_nar .boolean 0)))), (g3, .inl (kG3, 4, .inl (fun _ => 0))), (g4, .inl (kG4, 4, .inl (fun _ => 0))), (g5, .inl (kG5, 4, .inl (fun _ => 0))), (g7, .inl (kG6, 4, .inl (fun _ => 0))), (g12, .inl (kG7, 4, .inl (fun _ => 0))), (g13, .inl (kG8, 4, .inl (fun _ => 0))), (g14, .inl (kG9, 4, .inl (fun _ => 0))), (g15, .inl (kG10, 4, .inl (fun _ => 0))), (g16, .inl (kG11, 4, .inl (fun _ => 0))), (g17, .inl (kG12, 4, .inl (fun _ => 0)))] H := hP
            have hD : va_D A [(g0, .inr (4, [.ref g1, .ref g2, .ref g3, .ref g4, .ref g5, .ref g6, .ref g7, .ref g8, .ref g9, .ref g10, .ref g11, .ref g12, .ref g13, .ref g14, .ref g15, .ref g16, .ref g17, .ref g18, .int 0, .ref g19, .int 0, .int 0, .int 0])), (g1, .inl (kG1, 4, .inl (upd (fun _ => 0) (p0 : Int32).toNatClampNeg (vp_nar .boolean 1)))), (g2, .inl (kG2, 4, .inl (upd (fun _ => 0) (p0 : Int32).toNatClampNeg (vp_nar .boolean 0)))), (g3, .inl (kG3, 4, .inl (fun _ => 0))), (g4, .inl (kG4, 4, .inl (fun _ => 0))), (g5, .inl (kG5, 4, .inl (fun _ => 0))), (g7, .inl (kG6, 4, .inl (fun _ => 0))), (g12, .inl (kG7, 4, .inl (fun _ => 0))), (g13, .inl (kG8, 4, .inl (fun _ => 0))), (g14, .inl (kG9, 4, .inl (fun _ => 0))), (g15, .inl (kG10, 4, .inl (fun _ => 0))), (g16, .inl (kG11, 4, .inl (fun _ => 0))), (g17, .inl (kG12, 4, .inl (fun _ => 0)))] := hD
            refine lv_aload_n hx hb dX5_open_42 rfl (lv_at hl 0 rfl) ?_
            refine va_get (D := (dC, dI)) (ci := 4) (v := .ref g3) (C := RX5) (T := TX5) (N := 23) hx hb hts (by decide +kernel) hown hK hP 0 rfl rfl 2 (by decide) (hts (.fieldLink RX5 16 "SignFormsModel" "told" "[I") (by decide +kernel)) (fun _ h9 => h9) rfl dX5_open_43 ?_
            refine lv_iload_n hx hb dX5_open_46 rfl (lv_at hl 1 rfl) ?_
            refine lv_iload_n hx hb dX5_open_47 rfl (lv_at hl 2 rfl) ?_
            refine va_iast hx hb hK hP hD hS 3 2 rfl rfl (vp_in_iff.mpr (by omega)) dX5_open_48 (fun H locs hP hD hS => ?_)
            have hP : va_P (dC, dI) vwCl [(g0, .inr (4, [.ref g1, .ref g2, .ref g3, .ref g4, .ref g5, .ref g6, .ref g7, .ref g8, .ref g9, .ref g10, .ref g11, .ref g12, .ref g13, .ref g14, .ref g15, .ref g16, .ref g17, .ref g18, .int 0, .ref g19, .int 0, .int 0, .int 0])), (g1, .inl (kG1, 4, .inl (upd (fun _ => 0) (p0 : Int32).toNatClampNeg (vp_nar .boolean 1)))), (g2, .inl (kG2, 4, .inl (upd (fun _ => 0) (p0 : Int32).toNatClampNeg (vp_nar .boolean 0)))), (g3, .inl (kG3, 4, .inl (upd (fun _ => 0) (p0 : Int32).toNatClampNeg p1))), (g4, .inl (kG4, 4, .inl (fun _ => 0))), (g5, .inl (kG5, 4, .inl (fun _ => 0))), (g7, .inl (kG6, 4, .inl (fun _ => 0))), (g12, .inl (kG7, 4, .inl (fun _ => 0))), (g13, .inl (kG8, 4, .inl (fun _ => 0))), (g14, .inl (kG9, 4, .inl (fun _ => 0))), (g15, .inl (kG10, 4, .inl (fun _ => 0))), (g16, .inl (kG11, 4, .inl (fun _ => 0))), (g17, .inl (kG12, 4, .inl (fun _ => 0)))] H := hP
            have hD : va_D A [(g0, .inr (4, [.ref g1, .ref g2, .ref g3, .ref g4, .ref g5, .ref g6, .ref g7, .ref g8, .ref g9, .ref g10, .ref g11, .ref g12, .ref g13, .ref g14, .ref g15, .ref g16, .ref g17, .ref g18, .int 0, .ref g19, .int 0, .int 0, .int 0])), (g1, .inl (kG1, 4, .inl (upd (fun _ => 0) (p0 : Int32).toNatClampNeg (vp_nar .boolean 1)))), (g2, .inl (kG2, 4, .inl (upd (fun _ => 0) (p0 : Int32).toNatClampNeg (vp_nar .boolean 0)))), (g3, .inl (kG3, 4, .inl (upd (fun _ => 0) (p0 : Int32).toNatClampNeg p1))), (g4, .inl (kG4, 4, .inl (fun _ => 0))), (g5, .inl (kG5, 4, .inl (fun _ => 0))), (g7, .inl (kG6, 4, .inl (fun _ => 0))), (g12, .inl (kG7, 4, .inl (fun _ => 0))), (g13, .inl (kG8, 4, .inl (fun _ => 0))), (g14, .inl (kG9, 4, .inl (fun _ => 0))), (g15, .inl (kG10, 4, .inl (fun _ => 0))), (g16, .inl (kG11, 4, .inl (fun _ => 0))), (g17, .inl (kG12, 4, .inl (fun _ => 0)))] := hD
            refine lv_aload_n hx hb dX5_open_49 rfl (lv_at hl 0 rfl) ?_
            refine va_get (D := (dC, dI)) (ci := 4) (v := .ref g5) (C := RX5) (T := TX5) (N := 23) hx hb hts (by decide +kernel) hown hK hP 0 rfl rfl 4 (by decide) (hts (.fieldLink RX5 23 "SignFormsModel" "policy" "[I") (by decide +kernel)) (fun _ h9 => h9) rfl dX5_open_50 ?_
            refine lv_iload_n hx hb dX5_open_53 rfl (lv_at hl 1 rfl) ?_
            refine lv_iload_n hx hb dX5_open_54 rfl (lv_at hl 3 rfl) ?_
            refine va_iast hx hb hK hP hD hS 5 4 rfl rfl (vp_in_iff.mpr (by omega)) dX5_open_55 (fun H locs hP hD hS => ?_)
            have hP : va_P (dC, dI) vwCl [(g0, .inr (4, [.ref g1, .ref g2, .ref g3, .ref g4, .ref g5, .ref g6, .ref g7, .ref g8, .ref g9, .ref g10, .ref g11, .ref g12, .ref g13, .ref g14, .ref g15, .ref g16, .ref g17, .ref g18, .int 0, .ref g19, .int 0, .int 0, .int 0])), (g1, .inl (kG1, 4, .inl (upd (fun _ => 0) (p0 : Int32).toNatClampNeg (vp_nar .boolean 1)))), (g2, .inl (kG2, 4, .inl (upd (fun _ => 0) (p0 : Int32).toNatClampNeg (vp_nar .boolean 0)))), (g3, .inl (kG3, 4, .inl (upd (fun _ => 0) (p0 : Int32).toNatClampNeg p1))), (g4, .inl (kG4, 4, .inl (fun _ => 0))), (g5, .inl (kG5, 4, .inl (upd (fun _ => 0) (p0 : Int32).toNatClampNeg p2))), (g7, .inl (kG6, 4, .inl (fun _ => 0))), (g12, .inl (kG7, 4, .inl (fun _ => 0))), (g13, .inl (kG8, 4, .inl (fun _ => 0))), (g14, .inl (kG9, 4, .inl (fun _ => 0))), (g15, .inl (kG10, 4, .inl (fun _ => 0))), (g16, .inl (kG11, 4, .inl (fun _ => 0))), (g17, .inl (kG12, 4, .inl (fun _ => 0)))] H := hP
            have hD : va_D A [(g0, .inr (4, [.ref g1, .ref g2, .ref g3, .ref g4, .ref g5, .ref g6, .ref g7, .ref g8, .ref g9, .ref g10, .ref g11, .ref g12, .ref g13, .ref g14, .ref g15, .ref g16, .ref g17, .ref g18, .int 0, .ref g19, .int 0, .int 0, .int 0])), (g1, .inl (kG1, 4, .inl (upd (fun _ => 0) (p0 : Int32).toNatClampNeg (vp_nar .boolean 1)))), (g2, .inl (kG2, 4, .inl (upd (fun _ => 0) (p0 : Int32).toNatClampNeg (vp_nar .boolean 0)))), (g3, .inl (kG3, 4, .inl (upd (fun _ => 0) (p0 : Int32).toNatClampNeg p1))), (g4, .inl (kG4, 4, .inl (fun _ => 0))), (g5, .inl (kG5, 4, .inl (upd (fun _ => 0) (p0 : Int32).toNatClampNeg p2))), (g7, .inl (kG6, 4, .inl (fun _ => 0))), (g12, .inl (kG7, 4, .inl (fun _ => 0))), (g13, .inl (kG8, 4, .inl (fun _ => 0))), (g14, .inl (kG9, 4, .inl (fun _ => 0))), (g15, .inl (kG10, 4, .inl (fun _ => 0))), (g16, .inl (kG11, 4, .inl (fun _ => 0))), (g17, .inl (kG12, 4, .inl (fun _ => 0)))] := hD
            refine lv_aload_n hx hb dX5_open_56 rfl (lv_at hl 0 rfl) ?_
            refine va_get (D := (dC, dI)) (ci := 4) (v := .ref g7) (C := RX5) (T := TX5) (N := 23) hx hb hts (by decide +kernel) hown hK hP 0 rfl rfl 6 (by decide) (hts (.fieldLink RX5 29 "SignFormsModel" "many" "[I") (by decide +kernel)) (fun _ h9 => h9) rfl dX5_open_57 ?_
            refine lv_iload_n hx hb dX5_open_60 rfl (lv_at hl 1 rfl) ?_
            refine lv_iconst (v := 0) hx hb dX5_open_61 (by decide) ?_
            refine va_iast hx hb hK hP hD hS 6 5 rfl rfl (vp_in_iff.mpr (by omega)) dX5_open_62 (fun H locs hP hD hS => ?_)
            have hP : va_P (dC, dI) vwCl [(g0, .inr (4, [.ref g1, .ref g2, .ref g3, .ref g4, .ref g5, .ref g6, .ref g7, .ref g8, .ref g9, .ref g10, .ref g11, .ref g12, .ref g13, .ref g14, .ref g15, .ref g16, .ref g17, .ref g18, .int 0, .ref g19, .int 0, .int 0, .int 0])), (g1, .inl (kG1, 4, .inl (upd (fun _ => 0) (p0 : Int32).toNatClampNeg (vp_nar .boolean 1)))), (g2, .inl (kG2, 4, .inl (upd (fun _ => 0) (p0 : Int32).toNatClampNeg (vp_nar .boolean 0)))), (g3, .inl (kG3, 4, .inl (upd (fun _ => 0) (p0 : Int32).toNatClampNeg p1))), (g4, .inl (kG4, 4, .inl (fun _ => 0))), (g5, .inl (kG5, 4, .inl (upd (fun _ => 0) (p0 : Int32).toNatClampNeg p2))), (g7, .inl (kG6, 4, .inl (upd (fun _ => 0) (p0 : Int32).toNatClampNeg 0))), (g12, .inl (kG7, 4, .inl (fun _ => 0))), (g13, .inl (kG8, 4, .inl (fun _ => 0))), (g14, .inl (kG9, 4, .inl (fun _ => 0))), (g15, .inl (kG10, 4, .inl (fun _ => 0))), (g16, .inl (kG11, 4, .inl (fun _ => 0))), (g17, .inl (kG12, 4, .inl (fun _ => 0)))] H := hP
            have hD : va_D A [(g0, .inr (4, [.ref g1, .ref g2, .ref g3, .ref g4, .ref g5, .ref g6, .ref g7, .ref g8, .ref g9, .ref g10, .ref g11, .ref g12, .ref g13, .ref g14, .ref g15, .ref g16, .ref g17, .ref g18, .int 0, .ref g19, .int 0, .int 0, .int 0])), (g1, .inl (kG1, 4, .inl (upd (fun _ => 0) (p0 : Int32).toNatClampNeg (vp_nar .boolean 1)))), (g2, .inl (kG2, 4, .inl (upd (fun _ => 0) (p0 : Int32).toNatClampNeg (vp_nar .boolean 0)))), (g3, .inl (kG3, 4, .inl (upd (fun _ => 0) (p0 : Int32).toNatClampNeg p1))), (g4, .inl (kG4, 4, .inl (fun _ => 0))), (g5, .inl (kG5, 4, .inl (upd (fun _ => 0) (p0 : Int32).toNatClampNeg p2))), (g7, .inl (kG6, 4, .inl (upd (fun _ => 0) (p0 : Int32).toNatClampNeg 0))), (g12, .inl (kG7, 4, .inl (fun _ => 0))), (g13, .inl (kG8, 4, .inl (fun _ => 0))), (g14, .inl (kG9, 4, .inl (fun _ => 0))), (g15, .inl (kG10, 4, .inl (fun _ => 0))), (g16, .inl (kG11, 4, .inl (fun _ => 0))), (g17, .inl (kG12, 4, .inl (fun _ => 0)))] := hD
            refine lv_aload_n hx hb dX5_open_63 rfl (lv_at hl 0 rfl) ?_
            refine lv_iload_n hx hb dX5_open_64 rfl (lv_at hl 1 rfl) ?_
            have hPc := hP.sub (ws' := [(g0, .inr (4, [.ref g1, .ref g2, .ref g3, .ref g4, .ref g5, .ref g6, .ref g7, .ref g8, .ref g9, .ref g10, .ref g11, .ref g12, .ref g13, .ref g14, .ref g15, .ref g16, .ref g17, .ref g18, .int 0, .ref g19, .int 0, .int 0, .int 0])), (g1, .inl (kG1, 4, .inl (upd (fun _ => 0) (p0 : Int32).toNatClampNeg (vp_nar .boolean 1)))), (g2, .inl (kG2, 4, .inl (upd (fun _ => 0) (p0 : Int32).toNatClampNeg (vp_nar .boolean 0)))), (g3, .inl (kG3, 4, .inl (upd (fun _ => 0) (p0 : Int32).toNatClampNeg p1))), (g4, .inl (kG4, 4, .inl (fun _ => 0))), (g5, .inl (kG5, 4, .inl (upd (fun _ => 0) (p0 : Int32).toNatClampNeg p2))), (g7, .inl (kG6, 4, .inl (upd (fun _ => 0) (p0 : Int32).toNatClampNeg 0))), (g12, .inl (kG7, 4, .inl (fun _ => 0))), (g13, .inl (kG8, 4, .inl (fun _ => 0))), (g14, .inl (kG9, 4, .inl (fun _ => 0))), (g15, .inl (kG10, 4, .inl (fun _ => 0))), (g16, .inl (kG11, 4, .inl (fun _ => 0))), (g17, .inl (kG12, 4, .inl (fun _ => 0)))]) [0, 1, 2, 3, 4, 5, 6, 7, 8, 9, 10, 11, 12] rfl
            have hKc := hK.sub (tys' := [(kG1, .boolean), (kG2, .boolean), (kG3, .int), (kG4, .int), (kG5, .int), (kG6, .int), (kG7, .int), (kG8, .int), (kG9, .int), (kG10, .int), (kG11, .int), (kG12, .boolean)]) [0, 1, 2, 3, 4, 5, 6, 7, 8, 9, 10, 11] rfl
            have hDc := hD.sub (ws' := [(g0, .inr (4, [.ref g1, .ref g2, .ref g3, .ref g4, .ref g5, .ref g6, .ref g7, .ref g8, .ref g9, .ref g10, .ref g11, .ref g12, .ref g13, .ref g14, .ref g15, .ref g16, .ref g17, .ref g18, .int 0, .ref g19, .int 0, .int 0, .int 0])), (g1, .inl (kG1, 4, .inl (upd (fun _ => 0) (p0 : Int32).toNatClampNeg (vp_nar .boolean 1)))), (g2, .inl (kG2, 4, .inl (upd (fun _ => 0) (p0 : Int32).toNatClampNeg (vp_nar .boolean 0)))), (g3, .inl (kG3, 4, .inl (upd (fun _ => 0) (p0 : Int32).toNatClampNeg p1))), (g4, .inl (kG4, 4, .inl (fun _ => 0))), (g5, .inl (kG5, 4, .inl (upd (fun _ => 0) (p0 : Int32).toNatClampNeg p2))), (g7, .inl (kG6, 4, .inl (upd (fun _ => 0) (p0 : Int32).toNatClampNeg 0))), (g12, .inl (kG7, 4, .inl (fun _ => 0))), (g13, .inl (kG8, 4, .inl (fun _ => 0))), (g14, .inl (kG9, 4, .inl (fun _ => 0))), (g15, .inl (kG10, 4, .inl (fun _ => 0))), (g16, .inl (kG11, 4, .inl (fun _ => 0))), (g17, .inl (kG12, 4, .inl (fun _ => 0)))]) [0, 1, 2, 3, 4, 5, 6, 7, 8, 9, 10, 11, 12] (by decide) rfl
            have hFc := va_free (wc := [(g0, .inr (4, [.ref g1, .ref g2, .ref g3, .ref g4, .ref g5, .ref g6, .ref g7, .ref g8, .ref g9, .ref g10, .ref g11, .ref g12, .ref g13, .ref g14, .ref g15, .ref g16, .ref g17, .ref g18, .int 0, .ref g19, .int 0, .int 0, .int 0])), (g1, .inl (kG1, 4, .inl (upd (fun _ => 0) (p0 : Int32).toNatClampNeg (vp_nar .boolean 1)))), (g2, .inl (kG2, 4, .inl (upd (fun _ => 0) (p0 : Int32).toNatClampNeg (vp_nar .boolean 0)))), (g3, .inl (kG3, 4, .inl (upd (fun _ => 0) (p0 : Int32).toNatClampNeg p1))), (g4, .inl (kG4, 4, .inl (fun _ => 0))), (g5, .inl (kG5, 4, .inl (upd (fun _ => 0) (p0 : Int32).toNatClampNeg p2))), (g7, .inl (kG6, 4, .inl (upd (fun _ => 0) (p0 : Int32).toNatClampNeg 0))), (g12, .inl (kG7, 4, .inl (fun _ => 0))), (g13, .inl (kG8, 4, .inl (fun _ => 0))), (g14, .inl (kG9, 4, .inl (fun _ => 0))), (g15, .inl (kG10, 4, .inl (fun _ => 0))), (g16, .inl (kG11, 4, .inl (fun _ => 0))), (g17, .inl (kG12, 4, .inl (fun _ => 0)))]) hD hS hA [0, 1, 2, 3, 4, 5, 6, 7, 8, 9, 10, 11, 12] rfl
            refine va_callv (va_runV (As := [.int p0]) (rest := []) ⟨hx, hb, hml, hown, hts⟩ (kX5_findAll l dC dI g0 g1 g2 g3 g4 g5 g6 g7 g8 g9 g10 g11 g12 g13 g14 g15 g16 g17 g18 g19 kG1 kG2 kG3 kG4 kG5 kG6 kG7 kG8 kG9 kG10 kG11 kG12 H.size p0 p1 p2 (by omega)) (cwV 1 hts gX5_open_X5_findAll rfl rfl rfl (by decide +kernel) ⟨Nat.le_of_ble_eq_true rfl, Nat.le_of_ble_eq_true rfl⟩) ⟨fun a U g mk q => by obtain ⟨q0, q1, qP, qK, qD⟩ := q; exact ⟨q0, q1, qP, va_K.moved (u := U) (U := U.calling g mk a) (Vm.Alike.refl U.vm) qK, qD⟩, va_recv hKc hPc (ci := 4) (q0 := 0) rfl rfl, fun U hU hW => ⟨rfl, by rw [hU], by rw [hU]; exact hPc, va_K.moved hW.alike hKc, hDc.weaken (fun _ _ _ _ => trivial)⟩⟩ rfl rfl hl.1 rfl (lv_room (Nat.le_of_ble_eq_true rfl)) dX5_open_65 ⟨Nat.le_of_ble_eq_true rfl, Nat.le_of_ble_eq_true rfl⟩) hS (fun q _ h => hFc q h) hFc (fun u t H1 locs ht hvm hwr_7 hB hz1 hk1 hS => ?_)
            have hP1 : va_P (dC, dI) vwCl [] t.heap := fun k q h => by simp at h
            have hD1 : va_D (va_A [(g0, .inr (4, [.ref g1, .ref g2, .ref g3, .ref g4, .ref g5, .ref g6, .ref g7, .ref g8, .ref g9, .ref g10, .ref g11, .ref g12, .ref g13, .ref g14, .ref g15, .ref g16, .ref g17, .ref g18, .int 0, .ref g19, .int 0, .int 0, .int 0])), (g1, .inl (kG1, 4, .inl (upd (fun _ => 0) (p0 : Int32).toNatClampNeg (vp_nar .boolean 1)))), (g2, .inl (kG2, 4, .inl (upd (fun _ => 0) (p0 : Int32).toNatClampNeg (vp_nar .boolean 0)))), (g3, .inl (kG3, 4, .inl (upd (fun _ => 0) (p0 : Int32).toNatClampNeg p1))), (g4, .inl (kG4, 4, .inl (fun _ => 0))), (g5, .inl (kG5, 4, .inl (upd (fun _ => 0) (p0 : Int32).toNatClampNeg p2))), (g7, .inl (kG6, 4, .inl (upd (fun _ => 0) (p0 : Int32).toNatClampNeg 0))), (g12, .inl (kG7, 4, .inl (fun _ => 0))), (g13, .inl (kG8, 4, .inl (fun _ => 0))), (g14, .inl (kG9, 4, .inl (fun _ => 0))), (g15, .inl (kG10, 4, .inl (fun _ => 0))), (g16, .inl (kG11, 4, .inl (fun _ => 0))), (g17, .inl (kG12, 4, .inl (fun _ => 0)))] H.size) [] := ⟨fun i j p q h => by simp at h, fun k q h => by simp at h⟩
            rw [ht] at hP1
            obtain ⟨hP, hD⟩ := va_join (wr := []) (w1 := []) hP hD [0, 1, 2, 3, 4, 5, 6, 7, 8, 9, 10, 11, 12] [] rfl rfl (by decide) (by decide) hk1 hFc hP1 hD1
            generalize H1 = H at hP hS ⊢
            have hP : va_P (dC, dI) vwCl [] H := hP
            have hD : va_D A [] := hD
            refine lv_iconst (v := 1) hx hb dX5_open_68 (by decide) ?_
            exact W.zret (v := 1) hx hb hr rfl (fun t ht hW => ⟨⟨1, (), rfl, Or.inl ⟨rfl, by omega⟩, trivial⟩, hS.F ht⟩) hS.2.2 dX5_open_69
          · have zc_6 : p2.toInt > (2 : Int) := zz_nle rfl (by decide) c_6
            refine lv_iconst (v := 0) hx hb dX5_open_26 (by decide) ?_
            exact W.zret (v := 0) hx hb hr rfl (fun t ht hW => ⟨⟨0, (), rfl, Or.inr ⟨rfl, by omega⟩, trivial⟩, hS.F ht⟩) hS.2.2 dX5_open_27
  · refine lv_if_eq (tgt := 26) hx hb dX5_open_4 (by decide) (fun _ => ?_) (fun c_8 => False.elim (by revert c_8; decide))
    refine lv_iconst (v := 0) hx hb dX5_open_26 (by decide) ?_
    exact W.zret (v := 0) hx hb hr rfl (fun t ht hW => ⟨⟨0, (), rfl, Or.inr ⟨rfl, by omega⟩, trivial⟩, hS.F ht⟩) hS.2.2 dX5_open_27
end
section
theorem lq_ao : Cond.arrayOver (.object "SignForms$Stream") ∈ lw_tbl := List.mem_of_getElem? (i := 56) (by decide +kernel)
theorem lq_n4 : Cond.methodLinkNest RX4 24 yX2_init "SignForms" ∈ lw_tbl := List.mem_of_getElem? (i := 75) (by decide +kernel)
theorem lq_n3 : Cond.methodLinkNest RX3 29 yX2_init "SignForms" ∈ lw_tbl := List.mem_of_getElem? (i := 118) (by decide +kernel)
end
section
theorem dL_law_0 : decode cL_law 0 = .ok (.new 7, 3) := by decide +kernel
theorem dL_law_3 : decode cL_law 3 = .ok (.dup, 1) := by decide +kernel
theorem dL_law_4 : decode cL_law 4 = .ok (.invokespecial 9, 3) := by decide +kernel
theorem dL_law_7 : decode cL_law 7 = .ok (.astore_n 1, 1) := by decide +kernel
theorem dL_law_8 : decode cL_law 8 = .ok (.new 10, 3) := by decide +kernel
theorem dL_law_11 : decode cL_law 11 = .ok (.dup, 1) := by decide +kernel
theorem dL_law_12 : decode cL_law 12 = .ok (.invokespecial 12, 3) := by decide +kernel
theorem dL_law_15 : decode cL_law 15 = .ok (.astore_n 2, 1) := by decide +kernel
theorem dL_law_16 : decode cL_law 16 = .ok (.iconst 0, 1) := by decide +kernel
theorem dL_law_17 : decode cL_law 17 = .ok (.istore_n 3, 1) := by decide +kernel
theorem dL_law_18 : decode cL_law 18 = .ok (.iload_n 3, 1) := by decide +kernel
theorem dL_law_19 : decode cL_law 19 = .ok (.aload_n 0, 1) := by decide +kernel
theorem dL_law_20 : decode cL_law 20 = .ok (.arraylength, 1) := by decide +kernel
theorem dL_law_21 : decode cL_law 21 = .ok (.iconst 5, 1) := by decide +kernel
theorem dL_law_22 : decode cL_law 22 = .ok (.isub, 1) := by decide +kernel
theorem dL_law_23 : decode cL_law 23 = .ok (.if_icmp .gt 655, 3) := by decide +kernel
theorem dL_law_26 : decode cL_law 26 = .ok (.aload_n 0, 1) := by decide +kernel
theorem dL_law_27 : decode cL_law 27 = .ok (.iload_n 3, 1) := by decide +kernel
theorem dL_law_28 : decode cL_law 28 = .ok (.iaload, 1) := by decide +kernel
theorem dL_law_29 : decode cL_law 29 = .ok (.bipush 15, 2) := by decide +kernel
theorem dL_law_31 : decode cL_law 31 = .ok (.iand, 1) := by decide +kernel
theorem dL_law_32 : decode cL_law 32 = .ok (.tableswitch 640 0 13 #[72, 115, 188, 231, 254, 287, 320, 363, 396, 455, 508, 531, 554, 597], 72) := by decide +kernel
theorem dL_law_104 : decode cL_law 104 = .ok (.aload_n 1, 1) := by decide +kernel
theorem dL_law_105 : decode cL_law 105 = .ok (.aload_n 0, 1) := by decide +kernel
theorem dL_law_106 : decode cL_law 106 = .ok (.iload_n 3, 1) := by decide +kernel
theorem dL_law_107 : decode cL_law 107 = .ok (.iconst 1, 1) := by decide +kernel
theorem dL_law_108 : decode cL_law 108 = .ok (.iadd, 1) := by decide +kernel
theorem dL_law_109 : decode cL_law 109 = .ok (.iaload, 1) := by decide +kernel
theorem dL_law_110 : decode cL_law 110 = .ok (.aload_n 0, 1) := by decide +kernel
theorem dL_law_111 : decode cL_law 111 = .ok (.iload_n 3, 1) := by decide +kernel
theorem dL_law_112 : decode cL_law 112 = .ok (.iconst 2, 1) := by decide +kernel
theorem dL_law_113 : decode cL_law 113 = .ok (.iadd, 1) := by decide +kernel
theorem dL_law_114 : decode cL_law 114 = .ok (.iaload, 1) := by decide +kernel
theorem dL_law_115 : decode cL_law 115 = .ok (.aload_n 0, 1) := by decide +kernel
theorem dL_law_116 : decode cL_law 116 = .ok (.iload_n 3, 1) := by decide +kernel
theorem dL_law_117 : decode cL_law 117 = .ok (.iconst 3, 1) := by decide +kernel
theorem dL_law_118 : decode cL_law 118 = .ok (.iadd, 1) := by decide +kernel
theorem dL_law_119 : decode cL_law 119 = .ok (.iaload, 1) := by decide +kernel
theorem dL_law_120 : decode cL_law 120 = .ok (.invokevirtual 13, 3) := by decide +kernel
theorem dL_law_123 : decode cL_law 123 = .ok (.aload_n 2, 1) := by decide +kernel
theorem dL_law_124 : decode cL_law 124 = .ok (.aload_n 0, 1) := by decide +kernel
theorem dL_law_125 : decode cL_law 125 = .ok (.iload_n 3, 1) := by decide +kernel
theorem dL_law_126 : decode cL_law 126 = .ok (.iconst 1, 1) := by decide +kernel
theorem dL_law_127 : decode cL_law 127 = .ok (.iadd, 1) := by decide +kernel
theorem dL_law_128 : decode cL_law 128 = .ok (.iaload, 1) := by decide +kernel
theorem dL_law_129 : decode cL_law 129 = .ok (.aload_n 0, 1) := by decide +kernel
theorem dL_law_130 : decode cL_law 130 = .ok (.iload_n 3, 1) := by decide +kernel
theorem dL_law_131 : decode cL_law 131 = .ok (.iconst 2, 1) := by decide +kernel
theorem dL_law_132 : decode cL_law 132 = .ok (.iadd, 1) := by decide +kernel
theorem dL_law_133 : decode cL_law 133 = .ok (.iaload, 1) := by decide +kernel
theorem dL_law_134 : decode cL_law 134 = .ok (.aload_n 0, 1) := by decide +kernel
theorem dL_law_135 : decode cL_law 135 = .ok (.iload_n 3, 1) := by decide +kernel
theorem dL_law_136 : decode cL_law 136 = .ok (.iconst 3, 1) := by decide +kernel
theorem dL_law_137 : decode cL_law 137 = .ok (.iadd, 1) := by decide +kernel
theorem dL_law_138 : decode cL_law 138 = .ok (.iaload, 1) := by decide +kernel
theorem dL_law_139 : decode cL_law 139 = .ok (.invokevirtual 17, 3) := by decide +kernel
theorem dL_law_142 : decode cL_law 142 = .ok (.if_icmp .eq 530, 3) := by decide +kernel
theorem dL_law_147 : decode cL_law 147 = .ok (.aload_n 1, 1) := by decide +kernel
theorem dL_law_148 : decode cL_law 148 = .ok (.aload_n 0, 1) := by decide +kernel
theorem dL_law_149 : decode cL_law 149 = .ok (.iload_n 3, 1) := by decide +kernel
end
section
theorem dL_law_150 : decode cL_law 150 = .ok (.iconst 1, 1) := by decide +kernel
theorem dL_law_151 : decode cL_law 151 = .ok (.iadd, 1) := by decide +kernel
theorem dL_law_152 : decode cL_law 152 = .ok (.iaload, 1) := by decide +kernel
theorem dL_law_153 : decode cL_law 153 = .ok (.aload_n 0, 1) := by decide +kernel
theorem dL_law_154 : decode cL_law 154 = .ok (.iload_n 3, 1) := by decide +kernel
theorem dL_law_155 : decode cL_law 155 = .ok (.iconst 2, 1) := by decide +kernel
theorem dL_law_156 : decode cL_law 156 = .ok (.iadd, 1) := by decide +kernel
theorem dL_law_157 : decode cL_law 157 = .ok (.iaload, 1) := by decide +kernel
theorem dL_law_158 : decode cL_law 158 = .ok (.i2l, 1) := by decide +kernel
theorem dL_law_159 : decode cL_law 159 = .ok (.bipush 32, 2) := by decide +kernel
theorem dL_law_161 : decode cL_law 161 = .ok (.lshl, 1) := by decide +kernel
theorem dL_law_162 : decode cL_law 162 = .ok (.aload_n 0, 1) := by decide +kernel
theorem dL_law_163 : decode cL_law 163 = .ok (.iload_n 3, 1) := by decide +kernel
theorem dL_law_164 : decode cL_law 164 = .ok (.iconst 3, 1) := by decide +kernel
theorem dL_law_165 : decode cL_law 165 = .ok (.iadd, 1) := by decide +kernel
theorem dL_law_166 : decode cL_law 166 = .ok (.iaload, 1) := by decide +kernel
theorem dL_law_167 : decode cL_law 167 = .ok (.i2l, 1) := by decide +kernel
theorem dL_law_168 : decode cL_law 168 = .ok (.ldc2_w 18, 3) := by decide +kernel
theorem dL_law_171 : decode cL_law 171 = .ok (.land, 1) := by decide +kernel
theorem dL_law_172 : decode cL_law 172 = .ok (.lor, 1) := by decide +kernel
theorem dL_law_173 : decode cL_law 173 = .ok (.aload_n 0, 1) := by decide +kernel
theorem dL_law_174 : decode cL_law 174 = .ok (.iload_n 3, 1) := by decide +kernel
theorem dL_law_175 : decode cL_law 175 = .ok (.iconst 4, 1) := by decide +kernel
theorem dL_law_176 : decode cL_law 176 = .ok (.iadd, 1) := by decide +kernel
theorem dL_law_177 : decode cL_law 177 = .ok (.iaload, 1) := by decide +kernel
theorem dL_law_178 : decode cL_law 178 = .ok (.invokevirtual 20, 3) := by decide +kernel
theorem dL_law_181 : decode cL_law 181 = .ok (.aload_n 2, 1) := by decide +kernel
theorem dL_law_182 : decode cL_law 182 = .ok (.aload_n 0, 1) := by decide +kernel
theorem dL_law_183 : decode cL_law 183 = .ok (.iload_n 3, 1) := by decide +kernel
theorem dL_law_184 : decode cL_law 184 = .ok (.iconst 1, 1) := by decide +kernel
theorem dL_law_185 : decode cL_law 185 = .ok (.iadd, 1) := by decide +kernel
theorem dL_law_186 : decode cL_law 186 = .ok (.iaload, 1) := by decide +kernel
theorem dL_law_187 : decode cL_law 187 = .ok (.aload_n 0, 1) := by decide +kernel
theorem dL_law_188 : decode cL_law 188 = .ok (.iload_n 3, 1) := by decide +kernel
theorem dL_law_189 : decode cL_law 189 = .ok (.iconst 2, 1) := by decide +kernel
theorem dL_law_190 : decode cL_law 190 = .ok (.iadd, 1) := by decide +kernel
theorem dL_law_191 : decode cL_law 191 = .ok (.iaload, 1) := by decide +kernel
theorem dL_law_192 : decode cL_law 192 = .ok (.i2l, 1) := by decide +kernel
theorem dL_law_193 : decode cL_law 193 = .ok (.bipush 32, 2) := by decide +kernel
theorem dL_law_195 : decode cL_law 195 = .ok (.lshl, 1) := by decide +kernel
theorem dL_law_196 : decode cL_law 196 = .ok (.aload_n 0, 1) := by decide +kernel
theorem dL_law_197 : decode cL_law 197 = .ok (.iload_n 3, 1) := by decide +kernel
theorem dL_law_198 : decode cL_law 198 = .ok (.iconst 3, 1) := by decide +kernel
theorem dL_law_199 : decode cL_law 199 = .ok (.iadd, 1) := by decide +kernel
theorem dL_law_200 : decode cL_law 200 = .ok (.iaload, 1) := by decide +kernel
theorem dL_law_201 : decode cL_law 201 = .ok (.i2l, 1) := by decide +kernel
theorem dL_law_202 : decode cL_law 202 = .ok (.ldc2_w 18, 3) := by decide +kernel
theorem dL_law_205 : decode cL_law 205 = .ok (.land, 1) := by decide +kernel
theorem dL_law_206 : decode cL_law 206 = .ok (.lor, 1) := by decide +kernel
theorem dL_law_207 : decode cL_law 207 = .ok (.aload_n 0, 1) := by decide +kernel
theorem dL_law_208 : decode cL_law 208 = .ok (.iload_n 3, 1) := by decide +kernel
theorem dL_law_209 : decode cL_law 209 = .ok (.iconst 4, 1) := by decide +kernel
theorem dL_law_210 : decode cL_law 210 = .ok (.iadd, 1) := by decide +kernel
theorem dL_law_211 : decode cL_law 211 = .ok (.iaload, 1) := by decide +kernel
theorem dL_law_212 : decode cL_law 212 = .ok (.invokevirtual 24, 3) := by decide +kernel
theorem dL_law_215 : decode cL_law 215 = .ok (.if_icmp .eq 457, 3) := by decide +kernel
theorem dL_law_220 : decode cL_law 220 = .ok (.aload_n 1, 1) := by decide +kernel
theorem dL_law_221 : decode cL_law 221 = .ok (.aload_n 0, 1) := by decide +kernel
theorem dL_law_222 : decode cL_law 222 = .ok (.iload_n 3, 1) := by decide +kernel
theorem dL_law_223 : decode cL_law 223 = .ok (.iconst 1, 1) := by decide +kernel
end
section
theorem dL_law_224 : decode cL_law 224 = .ok (.iadd, 1) := by decide +kernel
theorem dL_law_225 : decode cL_law 225 = .ok (.iaload, 1) := by decide +kernel
theorem dL_law_226 : decode cL_law 226 = .ok (.aload_n 0, 1) := by decide +kernel
theorem dL_law_227 : decode cL_law 227 = .ok (.iload_n 3, 1) := by decide +kernel
theorem dL_law_228 : decode cL_law 228 = .ok (.iconst 2, 1) := by decide +kernel
theorem dL_law_229 : decode cL_law 229 = .ok (.iadd, 1) := by decide +kernel
theorem dL_law_230 : decode cL_law 230 = .ok (.iaload, 1) := by decide +kernel
theorem dL_law_231 : decode cL_law 231 = .ok (.aload_n 0, 1) := by decide +kernel
theorem dL_law_232 : decode cL_law 232 = .ok (.iload_n 3, 1) := by decide +kernel
theorem dL_law_233 : decode cL_law 233 = .ok (.iconst 3, 1) := by decide +kernel
theorem dL_law_234 : decode cL_law 234 = .ok (.iadd, 1) := by decide +kernel
theorem dL_law_235 : decode cL_law 235 = .ok (.iaload, 1) := by decide +kernel
theorem dL_law_236 : decode cL_law 236 = .ok (.invokevirtual 25, 3) := by decide +kernel
theorem dL_law_239 : decode cL_law 239 = .ok (.aload_n 2, 1) := by decide +kernel
theorem dL_law_240 : decode cL_law 240 = .ok (.aload_n 0, 1) := by decide +kernel
theorem dL_law_241 : decode cL_law 241 = .ok (.iload_n 3, 1) := by decide +kernel
theorem dL_law_242 : decode cL_law 242 = .ok (.iconst 1, 1) := by decide +kernel
theorem dL_law_243 : decode cL_law 243 = .ok (.iadd, 1) := by decide +kernel
theorem dL_law_244 : decode cL_law 244 = .ok (.iaload, 1) := by decide +kernel
theorem dL_law_245 : decode cL_law 245 = .ok (.aload_n 0, 1) := by decide +kernel
theorem dL_law_246 : decode cL_law 246 = .ok (.iload_n 3, 1) := by decide +kernel
theorem dL_law_247 : decode cL_law 247 = .ok (.iconst 2, 1) := by decide +kernel
theorem dL_law_248 : decode cL_law 248 = .ok (.iadd, 1) := by decide +kernel
theorem dL_law_249 : decode cL_law 249 = .ok (.iaload, 1) := by decide +kernel
theorem dL_law_250 : decode cL_law 250 = .ok (.aload_n 0, 1) := by decide +kernel
theorem dL_law_251 : decode cL_law 251 = .ok (.iload_n 3, 1) := by decide +kernel
theorem dL_law_252 : decode cL_law 252 = .ok (.iconst 3, 1) := by decide +kernel
theorem dL_law_253 : decode cL_law 253 = .ok (.iadd, 1) := by decide +kernel
theorem dL_law_254 : decode cL_law 254 = .ok (.iaload, 1) := by decide +kernel
theorem dL_law_255 : decode cL_law 255 = .ok (.invokevirtual 29, 3) := by decide +kernel
theorem dL_law_258 : decode cL_law 258 = .ok (.if_icmp .eq 414, 3) := by decide +kernel
theorem dL_law_263 : decode cL_law 263 = .ok (.aload_n 1, 1) := by decide +kernel
theorem dL_law_264 : decode cL_law 264 = .ok (.aload_n 0, 1) := by decide +kernel
theorem dL_law_265 : decode cL_law 265 = .ok (.iload_n 3, 1) := by decide +kernel
theorem dL_law_266 : decode cL_law 266 = .ok (.iconst 1, 1) := by decide +kernel
theorem dL_law_267 : decode cL_law 267 = .ok (.iadd, 1) := by decide +kernel
theorem dL_law_268 : decode cL_law 268 = .ok (.iaload, 1) := by decide +kernel
theorem dL_law_269 : decode cL_law 269 = .ok (.invokevirtual 30, 3) := by decide +kernel
theorem dL_law_272 : decode cL_law 272 = .ok (.aload_n 2, 1) := by decide +kernel
theorem dL_law_273 : decode cL_law 273 = .ok (.aload_n 0, 1) := by decide +kernel
theorem dL_law_274 : decode cL_law 274 = .ok (.iload_n 3, 1) := by decide +kernel
theorem dL_law_275 : decode cL_law 275 = .ok (.iconst 1, 1) := by decide +kernel
theorem dL_law_276 : decode cL_law 276 = .ok (.iadd, 1) := by decide +kernel
theorem dL_law_277 : decode cL_law 277 = .ok (.iaload, 1) := by decide +kernel
theorem dL_law_278 : decode cL_law 278 = .ok (.invokevirtual 34, 3) := by decide +kernel
theorem dL_law_281 : decode cL_law 281 = .ok (.if_icmp .eq 391, 3) := by decide +kernel
theorem dL_law_286 : decode cL_law 286 = .ok (.aload_n 1, 1) := by decide +kernel
theorem dL_law_287 : decode cL_law 287 = .ok (.aload_n 0, 1) := by decide +kernel
theorem dL_law_288 : decode cL_law 288 = .ok (.iload_n 3, 1) := by decide +kernel
theorem dL_law_289 : decode cL_law 289 = .ok (.iconst 1, 1) := by decide +kernel
theorem dL_law_290 : decode cL_law 290 = .ok (.iadd, 1) := by decide +kernel
theorem dL_law_291 : decode cL_law 291 = .ok (.iaload, 1) := by decide +kernel
theorem dL_law_292 : decode cL_law 292 = .ok (.aload_n 0, 1) := by decide +kernel
theorem dL_law_293 : decode cL_law 293 = .ok (.iload_n 3, 1) := by decide +kernel
theorem dL_law_294 : decode cL_law 294 = .ok (.iconst 2, 1) := by decide +kernel
theorem dL_law_295 : decode cL_law 295 = .ok (.iadd, 1) := by decide +kernel
theorem dL_law_296 : decode cL_law 296 = .ok (.iaload, 1) := by decide +kernel
theorem dL_law_297 : decode cL_law 297 = .ok (.invokevirtual 35, 3) := by decide +kernel
theorem dL_law_300 : decode cL_law 300 = .ok (.aload_n 2, 1) := by decide +kernel
theorem dL_law_301 : decode cL_law 301 = .ok (.aload_n 0, 1) := by decide +kernel
end
section
theorem dL_law_302 : decode cL_law 302 = .ok (.iload_n 3, 1) := by decide +kernel
theorem dL_law_303 : decode cL_law 303 = .ok (.iconst 1, 1) := by decide +kernel
theorem dL_law_304 : decode cL_law 304 = .ok (.iadd, 1) := by decide +kernel
theorem dL_law_305 : decode cL_law 305 = .ok (.iaload, 1) := by decide +kernel
theorem dL_law_306 : decode cL_law 306 = .ok (.aload_n 0, 1) := by decide +kernel
theorem dL_law_307 : decode cL_law 307 = .ok (.iload_n 3, 1) := by decide +kernel
theorem dL_law_308 : decode cL_law 308 = .ok (.iconst 2, 1) := by decide +kernel
theorem dL_law_309 : decode cL_law 309 = .ok (.iadd, 1) := by decide +kernel
theorem dL_law_310 : decode cL_law 310 = .ok (.iaload, 1) := by decide +kernel
theorem dL_law_311 : decode cL_law 311 = .ok (.invokevirtual 39, 3) := by decide +kernel
theorem dL_law_314 : decode cL_law 314 = .ok (.if_icmp .eq 358, 3) := by decide +kernel
theorem dL_law_319 : decode cL_law 319 = .ok (.aload_n 1, 1) := by decide +kernel
theorem dL_law_320 : decode cL_law 320 = .ok (.aload_n 0, 1) := by decide +kernel
theorem dL_law_321 : decode cL_law 321 = .ok (.iload_n 3, 1) := by decide +kernel
theorem dL_law_322 : decode cL_law 322 = .ok (.iconst 1, 1) := by decide +kernel
theorem dL_law_323 : decode cL_law 323 = .ok (.iadd, 1) := by decide +kernel
theorem dL_law_324 : decode cL_law 324 = .ok (.iaload, 1) := by decide +kernel
theorem dL_law_325 : decode cL_law 325 = .ok (.aload_n 0, 1) := by decide +kernel
theorem dL_law_326 : decode cL_law 326 = .ok (.iload_n 3, 1) := by decide +kernel
theorem dL_law_327 : decode cL_law 327 = .ok (.iconst 2, 1) := by decide +kernel
theorem dL_law_328 : decode cL_law 328 = .ok (.iadd, 1) := by decide +kernel
theorem dL_law_329 : decode cL_law 329 = .ok (.iaload, 1) := by decide +kernel
theorem dL_law_330 : decode cL_law 330 = .ok (.invokevirtual 40, 3) := by decide +kernel
theorem dL_law_333 : decode cL_law 333 = .ok (.aload_n 2, 1) := by decide +kernel
theorem dL_law_334 : decode cL_law 334 = .ok (.aload_n 0, 1) := by decide +kernel
theorem dL_law_335 : decode cL_law 335 = .ok (.iload_n 3, 1) := by decide +kernel
theorem dL_law_336 : decode cL_law 336 = .ok (.iconst 1, 1) := by decide +kernel
theorem dL_law_337 : decode cL_law 337 = .ok (.iadd, 1) := by decide +kernel
theorem dL_law_338 : decode cL_law 338 = .ok (.iaload, 1) := by decide +kernel
theorem dL_law_339 : decode cL_law 339 = .ok (.aload_n 0, 1) := by decide +kernel
theorem dL_law_340 : decode cL_law 340 = .ok (.iload_n 3, 1) := by decide +kernel
theorem dL_law_341 : decode cL_law 341 = .ok (.iconst 2, 1) := by decide +kernel
theorem dL_law_342 : decode cL_law 342 = .ok (.iadd, 1) := by decide +kernel
theorem dL_law_343 : decode cL_law 343 = .ok (.iaload, 1) := by decide +kernel
theorem dL_law_344 : decode cL_law 344 = .ok (.invokevirtual 43, 3) := by decide +kernel
theorem dL_law_347 : decode cL_law 347 = .ok (.if_icmp .eq 325, 3) := by decide +kernel
theorem dL_law_352 : decode cL_law 352 = .ok (.aload_n 1, 1) := by decide +kernel
theorem dL_law_353 : decode cL_law 353 = .ok (.aload_n 0, 1) := by decide +kernel
theorem dL_law_354 : decode cL_law 354 = .ok (.iload_n 3, 1) := by decide +kernel
theorem dL_law_355 : decode cL_law 355 = .ok (.iconst 1, 1) := by decide +kernel
theorem dL_law_356 : decode cL_law 356 = .ok (.iadd, 1) := by decide +kernel
theorem dL_law_357 : decode cL_law 357 = .ok (.iaload, 1) := by decide +kernel
theorem dL_law_358 : decode cL_law 358 = .ok (.aload_n 0, 1) := by decide +kernel
theorem dL_law_359 : decode cL_law 359 = .ok (.iload_n 3, 1) := by decide +kernel
theorem dL_law_360 : decode cL_law 360 = .ok (.iconst 2, 1) := by decide +kernel
theorem dL_law_361 : decode cL_law 361 = .ok (.iadd, 1) := by decide +kernel
theorem dL_law_362 : decode cL_law 362 = .ok (.iaload, 1) := by decide +kernel
theorem dL_law_363 : decode cL_law 363 = .ok (.aload_n 0, 1) := by decide +kernel
theorem dL_law_364 : decode cL_law 364 = .ok (.iload_n 3, 1) := by decide +kernel
theorem dL_law_365 : decode cL_law 365 = .ok (.iconst 3, 1) := by decide +kernel
theorem dL_law_366 : decode cL_law 366 = .ok (.iadd, 1) := by decide +kernel
theorem dL_law_367 : decode cL_law 367 = .ok (.iaload, 1) := by decide +kernel
theorem dL_law_368 : decode cL_law 368 = .ok (.invokevirtual 44, 3) := by decide +kernel
theorem dL_law_371 : decode cL_law 371 = .ok (.aload_n 2, 1) := by decide +kernel
theorem dL_law_372 : decode cL_law 372 = .ok (.aload_n 0, 1) := by decide +kernel
theorem dL_law_373 : decode cL_law 373 = .ok (.iload_n 3, 1) := by decide +kernel
theorem dL_law_374 : decode cL_law 374 = .ok (.iconst 1, 1) := by decide +kernel
theorem dL_law_375 : decode cL_law 375 = .ok (.iadd, 1) := by decide +kernel
theorem dL_law_376 : decode cL_law 376 = .ok (.iaload, 1) := by decide +kernel
theorem dL_law_377 : decode cL_law 377 = .ok (.aload_n 0, 1) := by decide +kernel
end
section
theorem dL_law_378 : decode cL_law 378 = .ok (.iload_n 3, 1) := by decide +kernel
theorem dL_law_379 : decode cL_law 379 = .ok (.iconst 2, 1) := by decide +kernel
theorem dL_law_380 : decode cL_law 380 = .ok (.iadd, 1) := by decide +kernel
theorem dL_law_381 : decode cL_law 381 = .ok (.iaload, 1) := by decide +kernel
theorem dL_law_382 : decode cL_law 382 = .ok (.aload_n 0, 1) := by decide +kernel
theorem dL_law_383 : decode cL_law 383 = .ok (.iload_n 3, 1) := by decide +kernel
theorem dL_law_384 : decode cL_law 384 = .ok (.iconst 3, 1) := by decide +kernel
theorem dL_law_385 : decode cL_law 385 = .ok (.iadd, 1) := by decide +kernel
theorem dL_law_386 : decode cL_law 386 = .ok (.iaload, 1) := by decide +kernel
theorem dL_law_387 : decode cL_law 387 = .ok (.invokevirtual 47, 3) := by decide +kernel
theorem dL_law_390 : decode cL_law 390 = .ok (.if_icmp .eq 282, 3) := by decide +kernel
theorem dL_law_395 : decode cL_law 395 = .ok (.aload_n 1, 1) := by decide +kernel
theorem dL_law_396 : decode cL_law 396 = .ok (.aload_n 0, 1) := by decide +kernel
theorem dL_law_397 : decode cL_law 397 = .ok (.iload_n 3, 1) := by decide +kernel
theorem dL_law_398 : decode cL_law 398 = .ok (.iconst 1, 1) := by decide +kernel
theorem dL_law_399 : decode cL_law 399 = .ok (.iadd, 1) := by decide +kernel
theorem dL_law_400 : decode cL_law 400 = .ok (.iaload, 1) := by decide +kernel
theorem dL_law_401 : decode cL_law 401 = .ok (.aload_n 0, 1) := by decide +kernel
theorem dL_law_402 : decode cL_law 402 = .ok (.iload_n 3, 1) := by decide +kernel
theorem dL_law_403 : decode cL_law 403 = .ok (.iconst 2, 1) := by decide +kernel
theorem dL_law_404 : decode cL_law 404 = .ok (.iadd, 1) := by decide +kernel
theorem dL_law_405 : decode cL_law 405 = .ok (.iaload, 1) := by decide +kernel
theorem dL_law_406 : decode cL_law 406 = .ok (.invokevirtual 48, 3) := by decide +kernel
theorem dL_law_409 : decode cL_law 409 = .ok (.aload_n 2, 1) := by decide +kernel
theorem dL_law_410 : decode cL_law 410 = .ok (.aload_n 0, 1) := by decide +kernel
theorem dL_law_411 : decode cL_law 411 = .ok (.iload_n 3, 1) := by decide +kernel
theorem dL_law_412 : decode cL_law 412 = .ok (.iconst 1, 1) := by decide +kernel
theorem dL_law_413 : decode cL_law 413 = .ok (.iadd, 1) := by decide +kernel
theorem dL_law_414 : decode cL_law 414 = .ok (.iaload, 1) := by decide +kernel
theorem dL_law_415 : decode cL_law 415 = .ok (.aload_n 0, 1) := by decide +kernel
theorem dL_law_416 : decode cL_law 416 = .ok (.iload_n 3, 1) := by decide +kernel
theorem dL_law_417 : decode cL_law 417 = .ok (.iconst 2, 1) := by decide +kernel
theorem dL_law_418 : decode cL_law 418 = .ok (.iadd, 1) := by decide +kernel
theorem dL_law_419 : decode cL_law 419 = .ok (.iaload, 1) := by decide +kernel
theorem dL_law_420 : decode cL_law 420 = .ok (.invokevirtual 51, 3) := by decide +kernel
theorem dL_law_423 : decode cL_law 423 = .ok (.if_icmp .eq 249, 3) := by decide +kernel
theorem dL_law_428 : decode cL_law 428 = .ok (.aload_n 1, 1) := by decide +kernel
theorem dL_law_429 : decode cL_law 429 = .ok (.aload_n 0, 1) := by decide +kernel
theorem dL_law_430 : decode cL_law 430 = .ok (.iload_n 3, 1) := by decide +kernel
theorem dL_law_431 : decode cL_law 431 = .ok (.iconst 1, 1) := by decide +kernel
theorem dL_law_432 : decode cL_law 432 = .ok (.iadd, 1) := by decide +kernel
theorem dL_law_433 : decode cL_law 433 = .ok (.iaload, 1) := by decide +kernel
theorem dL_law_434 : decode cL_law 434 = .ok (.aload_n 0, 1) := by decide +kernel
theorem dL_law_435 : decode cL_law 435 = .ok (.iload_n 3, 1) := by decide +kernel
theorem dL_law_436 : decode cL_law 436 = .ok (.iconst 2, 1) := by decide +kernel
theorem dL_law_437 : decode cL_law 437 = .ok (.iadd, 1) := by decide +kernel
theorem dL_law_438 : decode cL_law 438 = .ok (.iaload, 1) := by decide +kernel
theorem dL_law_439 : decode cL_law 439 = .ok (.aload_n 0, 1) := by decide +kernel
theorem dL_law_440 : decode cL_law 440 = .ok (.iload_n 3, 1) := by decide +kernel
theorem dL_law_441 : decode cL_law 441 = .ok (.iconst 3, 1) := by decide +kernel
theorem dL_law_442 : decode cL_law 442 = .ok (.iadd, 1) := by decide +kernel
theorem dL_law_443 : decode cL_law 443 = .ok (.iaload, 1) := by decide +kernel
theorem dL_law_444 : decode cL_law 444 = .ok (.ifCond .eq 7, 3) := by decide +kernel
theorem dL_law_447 : decode cL_law 447 = .ok (.iconst 1, 1) := by decide +kernel
theorem dL_law_448 : decode cL_law 448 = .ok (.goto 4, 3) := by decide +kernel
theorem dL_law_451 : decode cL_law 451 = .ok (.iconst 0, 1) := by decide +kernel
theorem dL_law_452 : decode cL_law 452 = .ok (.invokevirtual 52, 3) := by decide +kernel
theorem dL_law_455 : decode cL_law 455 = .ok (.aload_n 2, 1) := by decide +kernel
theorem dL_law_456 : decode cL_law 456 = .ok (.aload_n 0, 1) := by decide +kernel
theorem dL_law_457 : decode cL_law 457 = .ok (.iload_n 3, 1) := by decide +kernel
end
section
theorem dL_law_458 : decode cL_law 458 = .ok (.iconst 1, 1) := by decide +kernel
theorem dL_law_459 : decode cL_law 459 = .ok (.iadd, 1) := by decide +kernel
theorem dL_law_460 : decode cL_law 460 = .ok (.iaload, 1) := by decide +kernel
theorem dL_law_461 : decode cL_law 461 = .ok (.aload_n 0, 1) := by decide +kernel
theorem dL_law_462 : decode cL_law 462 = .ok (.iload_n 3, 1) := by decide +kernel
theorem dL_law_463 : decode cL_law 463 = .ok (.iconst 2, 1) := by decide +kernel
theorem dL_law_464 : decode cL_law 464 = .ok (.iadd, 1) := by decide +kernel
theorem dL_law_465 : decode cL_law 465 = .ok (.iaload, 1) := by decide +kernel
theorem dL_law_466 : decode cL_law 466 = .ok (.aload_n 0, 1) := by decide +kernel
theorem dL_law_467 : decode cL_law 467 = .ok (.iload_n 3, 1) := by decide +kernel
theorem dL_law_468 : decode cL_law 468 = .ok (.iconst 3, 1) := by decide +kernel
theorem dL_law_469 : decode cL_law 469 = .ok (.iadd, 1) := by decide +kernel
theorem dL_law_470 : decode cL_law 470 = .ok (.iaload, 1) := by decide +kernel
theorem dL_law_471 : decode cL_law 471 = .ok (.ifCond .eq 7, 3) := by decide +kernel
theorem dL_law_474 : decode cL_law 474 = .ok (.iconst 1, 1) := by decide +kernel
theorem dL_law_475 : decode cL_law 475 = .ok (.goto 4, 3) := by decide +kernel
theorem dL_law_478 : decode cL_law 478 = .ok (.iconst 0, 1) := by decide +kernel
theorem dL_law_479 : decode cL_law 479 = .ok (.invokevirtual 56, 3) := by decide +kernel
theorem dL_law_482 : decode cL_law 482 = .ok (.if_icmp .eq 190, 3) := by decide +kernel
theorem dL_law_487 : decode cL_law 487 = .ok (.aload_n 1, 1) := by decide +kernel
theorem dL_law_488 : decode cL_law 488 = .ok (.aload_n 0, 1) := by decide +kernel
theorem dL_law_489 : decode cL_law 489 = .ok (.iload_n 3, 1) := by decide +kernel
theorem dL_law_490 : decode cL_law 490 = .ok (.iconst 1, 1) := by decide +kernel
theorem dL_law_491 : decode cL_law 491 = .ok (.iadd, 1) := by decide +kernel
theorem dL_law_492 : decode cL_law 492 = .ok (.iaload, 1) := by decide +kernel
theorem dL_law_493 : decode cL_law 493 = .ok (.aload_n 0, 1) := by decide +kernel
theorem dL_law_494 : decode cL_law 494 = .ok (.iload_n 3, 1) := by decide +kernel
theorem dL_law_495 : decode cL_law 495 = .ok (.iconst 2, 1) := by decide +kernel
theorem dL_law_496 : decode cL_law 496 = .ok (.iadd, 1) := by decide +kernel
theorem dL_law_497 : decode cL_law 497 = .ok (.iaload, 1) := by decide +kernel
theorem dL_law_498 : decode cL_law 498 = .ok (.aload_n 0, 1) := by decide +kernel
theorem dL_law_499 : decode cL_law 499 = .ok (.iload_n 3, 1) := by decide +kernel
theorem dL_law_500 : decode cL_law 500 = .ok (.iconst 3, 1) := by decide +kernel
theorem dL_law_501 : decode cL_law 501 = .ok (.iadd, 1) := by decide +kernel
theorem dL_law_502 : decode cL_law 502 = .ok (.iaload, 1) := by decide +kernel
theorem dL_law_503 : decode cL_law 503 = .ok (.aload_n 0, 1) := by decide +kernel
theorem dL_law_504 : decode cL_law 504 = .ok (.iload_n 3, 1) := by decide +kernel
theorem dL_law_505 : decode cL_law 505 = .ok (.iconst 4, 1) := by decide +kernel
theorem dL_law_506 : decode cL_law 506 = .ok (.iadd, 1) := by decide +kernel
theorem dL_law_507 : decode cL_law 507 = .ok (.iaload, 1) := by decide +kernel
theorem dL_law_508 : decode cL_law 508 = .ok (.invokevirtual 57, 3) := by decide +kernel
theorem dL_law_511 : decode cL_law 511 = .ok (.aload_n 2, 1) := by decide +kernel
theorem dL_law_512 : decode cL_law 512 = .ok (.aload_n 0, 1) := by decide +kernel
theorem dL_law_513 : decode cL_law 513 = .ok (.iload_n 3, 1) := by decide +kernel
theorem dL_law_514 : decode cL_law 514 = .ok (.iconst 1, 1) := by decide +kernel
theorem dL_law_515 : decode cL_law 515 = .ok (.iadd, 1) := by decide +kernel
theorem dL_law_516 : decode cL_law 516 = .ok (.iaload, 1) := by decide +kernel
theorem dL_law_517 : decode cL_law 517 = .ok (.aload_n 0, 1) := by decide +kernel
theorem dL_law_518 : decode cL_law 518 = .ok (.iload_n 3, 1) := by decide +kernel
theorem dL_law_519 : decode cL_law 519 = .ok (.iconst 2, 1) := by decide +kernel
theorem dL_law_520 : decode cL_law 520 = .ok (.iadd, 1) := by decide +kernel
theorem dL_law_521 : decode cL_law 521 = .ok (.iaload, 1) := by decide +kernel
theorem dL_law_522 : decode cL_law 522 = .ok (.aload_n 0, 1) := by decide +kernel
theorem dL_law_523 : decode cL_law 523 = .ok (.iload_n 3, 1) := by decide +kernel
theorem dL_law_524 : decode cL_law 524 = .ok (.iconst 3, 1) := by decide +kernel
theorem dL_law_525 : decode cL_law 525 = .ok (.iadd, 1) := by decide +kernel
theorem dL_law_526 : decode cL_law 526 = .ok (.iaload, 1) := by decide +kernel
theorem dL_law_527 : decode cL_law 527 = .ok (.aload_n 0, 1) := by decide +kernel
theorem dL_law_528 : decode cL_law 528 = .ok (.iload_n 3, 1) := by decide +kernel
theorem dL_law_529 : decode cL_law 529 = .ok (.iconst 4, 1) := by decide +kernel
end
section
theorem dL_law_530 : decode cL_law 530 = .ok (.iadd, 1) := by decide +kernel
theorem dL_law_531 : decode cL_law 531 = .ok (.iaload, 1) := by decide +kernel
theorem dL_law_532 : decode cL_law 532 = .ok (.invokevirtual 61, 3) := by decide +kernel
theorem dL_law_535 : decode cL_law 535 = .ok (.if_icmp .eq 137, 3) := by decide +kernel
theorem dL_law_540 : decode cL_law 540 = .ok (.aload_n 1, 1) := by decide +kernel
theorem dL_law_541 : decode cL_law 541 = .ok (.aload_n 0, 1) := by decide +kernel
theorem dL_law_542 : decode cL_law 542 = .ok (.iload_n 3, 1) := by decide +kernel
theorem dL_law_543 : decode cL_law 543 = .ok (.iconst 1, 1) := by decide +kernel
theorem dL_law_544 : decode cL_law 544 = .ok (.iadd, 1) := by decide +kernel
theorem dL_law_545 : decode cL_law 545 = .ok (.iaload, 1) := by decide +kernel
theorem dL_law_546 : decode cL_law 546 = .ok (.invokevirtual 62, 3) := by decide +kernel
theorem dL_law_549 : decode cL_law 549 = .ok (.aload_n 2, 1) := by decide +kernel
theorem dL_law_550 : decode cL_law 550 = .ok (.aload_n 0, 1) := by decide +kernel
theorem dL_law_551 : decode cL_law 551 = .ok (.iload_n 3, 1) := by decide +kernel
theorem dL_law_552 : decode cL_law 552 = .ok (.iconst 1, 1) := by decide +kernel
theorem dL_law_553 : decode cL_law 553 = .ok (.iadd, 1) := by decide +kernel
theorem dL_law_554 : decode cL_law 554 = .ok (.iaload, 1) := by decide +kernel
theorem dL_law_555 : decode cL_law 555 = .ok (.invokevirtual 65, 3) := by decide +kernel
theorem dL_law_558 : decode cL_law 558 = .ok (.if_icmp .eq 114, 3) := by decide +kernel
theorem dL_law_563 : decode cL_law 563 = .ok (.aload_n 1, 1) := by decide +kernel
theorem dL_law_564 : decode cL_law 564 = .ok (.aload_n 0, 1) := by decide +kernel
theorem dL_law_565 : decode cL_law 565 = .ok (.iload_n 3, 1) := by decide +kernel
theorem dL_law_566 : decode cL_law 566 = .ok (.iconst 1, 1) := by decide +kernel
theorem dL_law_567 : decode cL_law 567 = .ok (.iadd, 1) := by decide +kernel
theorem dL_law_568 : decode cL_law 568 = .ok (.iaload, 1) := by decide +kernel
theorem dL_law_569 : decode cL_law 569 = .ok (.invokevirtual 66, 3) := by decide +kernel
theorem dL_law_572 : decode cL_law 572 = .ok (.aload_n 2, 1) := by decide +kernel
theorem dL_law_573 : decode cL_law 573 = .ok (.aload_n 0, 1) := by decide +kernel
theorem dL_law_574 : decode cL_law 574 = .ok (.iload_n 3, 1) := by decide +kernel
theorem dL_law_575 : decode cL_law 575 = .ok (.iconst 1, 1) := by decide +kernel
theorem dL_law_576 : decode cL_law 576 = .ok (.iadd, 1) := by decide +kernel
theorem dL_law_577 : decode cL_law 577 = .ok (.iaload, 1) := by decide +kernel
theorem dL_law_578 : decode cL_law 578 = .ok (.invokevirtual 69, 3) := by decide +kernel
theorem dL_law_581 : decode cL_law 581 = .ok (.if_icmp .eq 91, 3) := by decide +kernel
theorem dL_law_586 : decode cL_law 586 = .ok (.aload_n 1, 1) := by decide +kernel
theorem dL_law_587 : decode cL_law 587 = .ok (.aload_n 0, 1) := by decide +kernel
theorem dL_law_588 : decode cL_law 588 = .ok (.iload_n 3, 1) := by decide +kernel
theorem dL_law_589 : decode cL_law 589 = .ok (.iconst 1, 1) := by decide +kernel
theorem dL_law_590 : decode cL_law 590 = .ok (.iadd, 1) := by decide +kernel
theorem dL_law_591 : decode cL_law 591 = .ok (.iaload, 1) := by decide +kernel
theorem dL_law_592 : decode cL_law 592 = .ok (.aload_n 0, 1) := by decide +kernel
theorem dL_law_593 : decode cL_law 593 = .ok (.iload_n 3, 1) := by decide +kernel
theorem dL_law_594 : decode cL_law 594 = .ok (.iconst 2, 1) := by decide +kernel
theorem dL_law_595 : decode cL_law 595 = .ok (.iadd, 1) := by decide +kernel
theorem dL_law_596 : decode cL_law 596 = .ok (.iaload, 1) := by decide +kernel
theorem dL_law_597 : decode cL_law 597 = .ok (.aload_n 0, 1) := by decide +kernel
theorem dL_law_598 : decode cL_law 598 = .ok (.iload_n 3, 1) := by decide +kernel
theorem dL_law_599 : decode cL_law 599 = .ok (.iconst 3, 1) := by decide +kernel
theorem dL_law_600 : decode cL_law 600 = .ok (.iadd, 1) := by decide +kernel
theorem dL_law_601 : decode cL_law 601 = .ok (.iaload, 1) := by decide +kernel
theorem dL_law_602 : decode cL_law 602 = .ok (.invokevirtual 70, 3) := by decide +kernel
theorem dL_law_605 : decode cL_law 605 = .ok (.aload_n 2, 1) := by decide +kernel
theorem dL_law_606 : decode cL_law 606 = .ok (.aload_n 0, 1) := by decide +kernel
theorem dL_law_607 : decode cL_law 607 = .ok (.iload_n 3, 1) := by decide +kernel
theorem dL_law_608 : decode cL_law 608 = .ok (.iconst 1, 1) := by decide +kernel
theorem dL_law_609 : decode cL_law 609 = .ok (.iadd, 1) := by decide +kernel
theorem dL_law_610 : decode cL_law 610 = .ok (.iaload, 1) := by decide +kernel
theorem dL_law_611 : decode cL_law 611 = .ok (.aload_n 0, 1) := by decide +kernel
theorem dL_law_612 : decode cL_law 612 = .ok (.iload_n 3, 1) := by decide +kernel
theorem dL_law_613 : decode cL_law 613 = .ok (.iconst 2, 1) := by decide +kernel
end
section
theorem dL_law_614 : decode cL_law 614 = .ok (.iadd, 1) := by decide +kernel
theorem dL_law_615 : decode cL_law 615 = .ok (.iaload, 1) := by decide +kernel
theorem dL_law_616 : decode cL_law 616 = .ok (.aload_n 0, 1) := by decide +kernel
theorem dL_law_617 : decode cL_law 617 = .ok (.iload_n 3, 1) := by decide +kernel
theorem dL_law_618 : decode cL_law 618 = .ok (.iconst 3, 1) := by decide +kernel
theorem dL_law_619 : decode cL_law 619 = .ok (.iadd, 1) := by decide +kernel
theorem dL_law_620 : decode cL_law 620 = .ok (.iaload, 1) := by decide +kernel
theorem dL_law_621 : decode cL_law 621 = .ok (.invokevirtual 73, 3) := by decide +kernel
theorem dL_law_624 : decode cL_law 624 = .ok (.if_icmp .eq 48, 3) := by decide +kernel
theorem dL_law_629 : decode cL_law 629 = .ok (.aload_n 1, 1) := by decide +kernel
theorem dL_law_630 : decode cL_law 630 = .ok (.aload_n 0, 1) := by decide +kernel
theorem dL_law_631 : decode cL_law 631 = .ok (.iload_n 3, 1) := by decide +kernel
theorem dL_law_632 : decode cL_law 632 = .ok (.iconst 1, 1) := by decide +kernel
theorem dL_law_633 : decode cL_law 633 = .ok (.iadd, 1) := by decide +kernel
theorem dL_law_634 : decode cL_law 634 = .ok (.iaload, 1) := by decide +kernel
theorem dL_law_635 : decode cL_law 635 = .ok (.aload_n 0, 1) := by decide +kernel
theorem dL_law_636 : decode cL_law 636 = .ok (.iload_n 3, 1) := by decide +kernel
theorem dL_law_637 : decode cL_law 637 = .ok (.iconst 2, 1) := by decide +kernel
theorem dL_law_638 : decode cL_law 638 = .ok (.iadd, 1) := by decide +kernel
theorem dL_law_639 : decode cL_law 639 = .ok (.iaload, 1) := by decide +kernel
theorem dL_law_640 : decode cL_law 640 = .ok (.aload_n 0, 1) := by decide +kernel
theorem dL_law_641 : decode cL_law 641 = .ok (.iload_n 3, 1) := by decide +kernel
theorem dL_law_642 : decode cL_law 642 = .ok (.iconst 3, 1) := by decide +kernel
theorem dL_law_643 : decode cL_law 643 = .ok (.iadd, 1) := by decide +kernel
theorem dL_law_644 : decode cL_law 644 = .ok (.iaload, 1) := by decide +kernel
theorem dL_law_645 : decode cL_law 645 = .ok (.invokevirtual 74, 3) := by decide +kernel
theorem dL_law_648 : decode cL_law 648 = .ok (.aload_n 2, 1) := by decide +kernel
theorem dL_law_649 : decode cL_law 649 = .ok (.aload_n 0, 1) := by decide +kernel
theorem dL_law_650 : decode cL_law 650 = .ok (.iload_n 3, 1) := by decide +kernel
theorem dL_law_651 : decode cL_law 651 = .ok (.iconst 1, 1) := by decide +kernel
theorem dL_law_652 : decode cL_law 652 = .ok (.iadd, 1) := by decide +kernel
theorem dL_law_653 : decode cL_law 653 = .ok (.iaload, 1) := by decide +kernel
theorem dL_law_654 : decode cL_law 654 = .ok (.aload_n 0, 1) := by decide +kernel
theorem dL_law_655 : decode cL_law 655 = .ok (.iload_n 3, 1) := by decide +kernel
theorem dL_law_656 : decode cL_law 656 = .ok (.iconst 2, 1) := by decide +kernel
theorem dL_law_657 : decode cL_law 657 = .ok (.iadd, 1) := by decide +kernel
theorem dL_law_658 : decode cL_law 658 = .ok (.iaload, 1) := by decide +kernel
theorem dL_law_659 : decode cL_law 659 = .ok (.aload_n 0, 1) := by decide +kernel
theorem dL_law_660 : decode cL_law 660 = .ok (.iload_n 3, 1) := by decide +kernel
theorem dL_law_661 : decode cL_law 661 = .ok (.iconst 3, 1) := by decide +kernel
theorem dL_law_662 : decode cL_law 662 = .ok (.iadd, 1) := by decide +kernel
theorem dL_law_663 : decode cL_law 663 = .ok (.iaload, 1) := by decide +kernel
theorem dL_law_664 : decode cL_law 664 = .ok (.invokevirtual 77, 3) := by decide +kernel
theorem dL_law_667 : decode cL_law 667 = .ok (.if_icmp .eq 5, 3) := by decide +kernel
theorem dL_law_672 : decode cL_law 672 = .ok (.iinc 3 5, 3) := by decide +kernel
theorem dL_law_675 : decode cL_law 675 = .ok (.goto (-657), 3) := by decide +kernel
theorem dL_law_678 : decode cL_law 678 = .ok (.iconst 1, 1) := by decide +kernel
theorem dL_law_679 : decode cL_law 679 = .ok (.ireturn, 1) := by decide +kernel
end
section
set_option maxRecDepth 20000 in
theorem ggL_law_X4_init : GoodIn wsL_law wsX4_init := goodIn_r _ [9, 10, 11, 12, 13, 14, 15, 16, 17, 18, 19, 20, 21, 22, 23, 24, 25, 26, 27, 28, 29, 30, 31, 32, 512, 513, 514, 538, 539, 540, 541, 542] (by decide +kernel) (by decide +kernel)
set_option maxRecDepth 20000 in
theorem gL_law_X4_init : GoodIn wsL_law (wsX4_init) := ggL_law_X4_init
set_option maxRecDepth 20000 in
theorem ggL_law_X4_open : GoodIn wsL_law wsX4_open := goodIn_r _ [61, 14, 13, 62, 63, 64, 65, 66, 2, 67, 68, 69, 70, 71, 11, 12, 27, 72, 73, 74, 75, 76, 77, 20, 21, 78, 30, 31, 32, 79, 80, 81, 82, 83, 84, 85, 86, 87, 88, 89, 90, 91, 92, 512, 513, 514, 543, 544, 545, 546, 547, 548, 549, 550, 551, 552, 553, 554, 555, 556, 557, 558, 540, 541, 542] (by decide +kernel) (by decide +kernel)
set_option maxRecDepth 20000 in
theorem gL_law_X4_open : GoodIn wsL_law (wsV RL 13 RX4 yX4_open wsX4_open) := goodIn_app (goodIn_of _ (by decide +kernel)) ggL_law_X4_open
set_option maxRecDepth 20000 in
theorem ggL_law_X4_end : GoodIn wsL_law wsX4_end := goodIn_r _ [307, 14, 167, 168, 64, 65, 66, 2, 67, 177, 178, 179, 63, 180, 83, 181, 182, 183, 184, 185, 186, 85, 187, 188, 189, 190, 91, 86, 92, 191, 192, 193, 194, 72, 195, 196, 197, 198, 199, 90, 78, 200, 201, 202, 203, 204, 205, 21, 206, 207, 208, 209, 210, 211, 212, 213, 214, 215, 216, 217, 218, 219, 220, 221, 222, 223, 224, 225, 226, 227, 228, 229, 230, 231, 232, 233, 234, 235, 236, 237, 238, 239, 240, 241, 242, 243, 244, 245, 246, 247, 248, 249, 250, 251, 252, 253, 254, 255, 256, 257, 258, 259, 260, 261, 262, 263, 264, 265, 266, 267, 268, 269, 270, 271, 272, 273, 274, 275, 276, 87, 73, 74, 75, 76, 277, 278, 279, 280, 88, 89, 84, 281, 512, 513, 514, 543, 544, 545, 546, 547, 548, 549, 550, 551, 552, 553, 554, 555, 556, 557, 558, 540, 541, 542] (by decide +kernel) (by decide +kernel)
set_option maxRecDepth 20000 in
theorem gL_law_X4_end : GoodIn wsL_law (wsV RL 30 RX4 yX4_end wsX4_end) := goodIn_app (goodIn_of _ (by decide +kernel)) ggL_law_X4_end
set_option maxRecDepth 20000 in
theorem ggL_law_X4_about : GoodIn wsL_law wsX4_about := goodIn_r _ [315, 14, 64, 65, 66, 2, 67, 316, 317, 318, 63, 319, 83, 85, 87, 88, 86, 92, 90, 91, 89, 512, 513, 514, 543, 544, 545, 546, 547, 548, 549, 550, 551, 552, 553, 554, 555, 556, 557, 558] (by decide +kernel) (by decide +kernel)
set_option maxRecDepth 20000 in
theorem gL_law_X4_about : GoodIn wsL_law (wsV RL 35 RX4 yX4_about wsX4_about) := goodIn_app (goodIn_of _ (by decide +kernel)) ggL_law_X4_about
set_option maxRecDepth 20000 in
theorem ggL_law_X4_at : GoodIn wsL_law wsX4_at := goodIn_r _ [359, 329, 330, 331, 2, 332, 14, 64, 65, 66, 67, 360, 361, 362, 63, 363, 87, 74, 75, 512, 513, 514, 543, 544, 545, 546, 547, 548, 549, 550, 551, 552, 553, 554, 555, 556, 557, 558] (by decide +kernel) (by decide +kernel)
set_option maxRecDepth 20000 in
theorem gL_law_X4_at : GoodIn wsL_law (wsV RL 48 RX4 yX4_at wsX4_at) := goodIn_app (goodIn_of _ (by decide +kernel)) ggL_law_X4_at
set_option maxRecDepth 20000 in
theorem ggL_law_X4_check : GoodIn wsL_law wsX4_check := goodIn_r _ [468, 18, 294, 22, 469, 470, 471, 373, 374, 2, 375, 472, 204, 205, 21, 206, 207, 208, 209, 210, 211, 212, 213, 214, 215, 216, 217, 218, 219, 220, 221, 222, 223, 224, 225, 226, 227, 228, 229, 230, 231, 232, 233, 234, 235, 236, 237, 238, 239, 240, 241, 242, 243, 244, 245, 246, 247, 248, 249, 250, 251, 252, 253, 254, 255, 256, 257, 258, 259, 260, 261, 262, 263, 264, 265, 266, 267, 268, 269, 270, 271, 272, 188, 189, 190, 512, 513, 514, 538, 539, 540, 541, 542] (by decide +kernel) (by decide +kernel)
set_option maxRecDepth 20000 in
theorem gL_law_X4_check : GoodIn wsL_law (wsV RL 66 RX4 yX4_check wsX4_check) := goodIn_app (goodIn_of _ (by decide +kernel)) ggL_law_X4_check
set_option maxRecDepth 20000 in
theorem ggL_law_X4_order : GoodIn wsL_law wsX4_order := goodIn_r _ [480, 14, 168, 295, 188, 189, 190, 328, 64, 65, 66, 2, 67, 481, 482, 483, 379, 484, 393, 233, 394, 235, 247, 485, 419, 420, 248, 486, 487, 488, 489, 490, 491, 512, 513, 514, 543, 544, 545, 546, 547, 548, 549, 550, 551, 552, 553, 554, 555, 556, 557, 558] (by decide +kernel) (by decide +kernel)
set_option maxRecDepth 20000 in
theorem gL_law_X4_order : GoodIn wsL_law (wsV RL 70 RX4 yX4_order wsX4_order) := goodIn_app (goodIn_of _ (by decide +kernel)) ggL_law_X4_order
set_option maxRecDepth 20000 in
theorem ggL_law_X4_among : GoodIn wsL_law wsX4_among := goodIn_r _ [503, 14, 64, 65, 66, 2, 67, 504, 505, 506, 63, 507, 87, 73, 512, 513, 514, 543, 544, 545, 546, 547, 548, 549, 550, 551, 552, 553, 554, 555, 556, 557, 558] (by decide +kernel) (by decide +kernel)
set_option maxRecDepth 20000 in
theorem gL_law_X4_among : GoodIn wsL_law (wsV RL 74 RX4 yX4_among wsX4_among) := goodIn_app (goodIn_of _ (by decide +kernel)) ggL_law_X4_among
end
section
set_option maxRecDepth 20000 in
theorem ggL_law_X4_put : GoodIn wsL_law wsX4_put := goodIn_r _ [166, 14, 167, 168, 64, 65, 66, 2, 67, 169, 170, 171, 63, 172, 72, 85, 173, 174, 175, 176, 177, 178, 179, 180, 83, 181, 182, 183, 184, 185, 186, 187, 188, 189, 190, 91, 86, 92, 191, 192, 193, 194, 195, 196, 197, 198, 199, 90, 78, 200, 201, 202, 203, 204, 205, 21, 206, 207, 208, 209, 210, 211, 212, 213, 214, 215, 216, 217, 218, 219, 220, 221, 222, 223, 224, 225, 226, 227, 228, 229, 230, 231, 232, 233, 234, 235, 236, 237, 238, 239, 240, 241, 242, 243, 244, 245, 246, 247, 248, 249, 250, 251, 252, 253, 254, 255, 256, 257, 258, 259, 260, 261, 262, 263, 264, 265, 266, 267, 268, 269, 270, 271, 272, 273, 274, 275, 276, 87, 73, 74, 75, 76, 277, 278, 279, 280, 88, 89, 84, 281, 512, 513, 514, 543, 544, 545, 546, 547, 548, 549, 550, 551, 552, 553, 554, 555, 556, 557, 558, 540, 541, 542] (by decide +kernel) (by decide +kernel)
set_option maxRecDepth 20000 in
theorem gL_law_X4_put : GoodIn wsL_law (wsV RL 20 RX4 yX4_put wsX4_put) := goodIn_app (goodIn_of _ (by decide +kernel)) ggL_law_X4_put
set_option maxRecDepth 20000 in
theorem ggL_law_X4_pour : GoodIn wsL_law wsX4_pour := goodIn_r _ [293, 18, 294, 14, 167, 295, 188, 189, 190, 64, 65, 66, 2, 67, 169, 170, 171, 63, 172, 72, 85, 296, 297, 298, 17, 299, 29, 28, 173, 174, 175, 176, 177, 178, 179, 180, 83, 181, 182, 183, 184, 185, 186, 187, 91, 86, 92, 191, 192, 193, 194, 195, 196, 197, 198, 199, 90, 78, 200, 201, 202, 203, 204, 205, 21, 206, 207, 208, 209, 210, 211, 212, 213, 214, 215, 216, 217, 218, 219, 220, 221, 222, 223, 224, 225, 226, 227, 228, 229, 230, 231, 232, 233, 234, 235, 236, 237, 238, 239, 240, 241, 242, 243, 244, 245, 246, 247, 248, 249, 250, 251, 252, 253, 254, 255, 256, 257, 258, 259, 260, 261, 262, 263, 264, 265, 266, 267, 268, 269, 270, 271, 272, 273, 274, 275, 276, 87, 73, 74, 75, 76, 277, 278, 279, 280, 88, 89, 84, 281, 512, 513, 514, 538, 539, 543, 544, 545, 546, 547, 548, 549, 550, 551, 552, 553, 554, 555, 556, 557, 558, 540, 541, 542] (by decide +kernel) (by decide +kernel)
set_option maxRecDepth 20000 in
theorem gL_law_X4_pour : GoodIn wsL_law (wsV RL 25 RX4 yX4_pour wsX4_pour) := goodIn_app (goodIn_of _ (by decide +kernel)) ggL_law_X4_pour
set_option maxRecDepth 20000 in
theorem ggL_law_X5_about : GoodIn wsL_law wsX5_about := goodIn_r _ [323, 38, 41, 44, 49, 50, 51, 39, 52, 54, 53, 97, 98, 5, 99, 515, 516, 517, 518, 519, 520, 521, 522, 523, 524, 525, 526, 527, 528, 529, 530, 531, 532, 533, 534, 535, 536, 537] (by decide +kernel) (by decide +kernel)
set_option maxRecDepth 20000 in
theorem gL_law_X5_about : GoodIn wsL_law (wsV RL 39 RX5 yX5_about wsX5_about) := goodIn_app (goodIn_of _ (by decide +kernel)) ggL_law_X5_about
set_option maxRecDepth 20000 in
theorem ggL_law_X4_sign : GoodIn wsL_law wsX4_sign := goodIn_r _ [327, 328, 329, 330, 331, 2, 332, 14, 64, 65, 66, 67, 333, 334, 335, 63, 336, 87, 543, 544, 545, 546, 547, 548, 549, 550, 551, 552, 553, 554, 555, 556, 557, 558, 512, 513, 514] (by decide +kernel) (by decide +kernel)
set_option maxRecDepth 20000 in
theorem gL_law_X4_sign : GoodIn wsL_law (wsV RL 40 RX4 yX4_sign wsX4_sign) := goodIn_app (goodIn_of _ (by decide +kernel)) ggL_law_X4_sign
set_option maxRecDepth 20000 in
theorem ggL_law_X4_placed : GoodIn wsL_law wsX4_placed := goodIn_r _ [348, 349, 350, 351, 329, 330, 331, 2, 332, 14, 64, 65, 66, 67, 333, 334, 335, 63, 336, 87, 543, 544, 545, 546, 547, 548, 549, 550, 551, 552, 553, 554, 555, 556, 557, 558, 512, 513, 514] (by decide +kernel) (by decide +kernel)
set_option maxRecDepth 20000 in
theorem gL_law_X4_placed : GoodIn wsL_law (wsV RL 44 RX4 yX4_placed wsX4_placed) := goodIn_app (goodIn_of _ (by decide +kernel)) ggL_law_X4_placed
set_option maxRecDepth 20000 in
theorem ggL_law_X4_write : GoodIn wsL_law wsX4_write := goodIn_r _ [371, 14, 372, 168, 18, 294, 328, 64, 65, 66, 2, 67, 373, 374, 375, 376, 377, 378, 379, 380, 381, 382, 383, 384, 385, 63, 386, 73, 387, 388, 389, 17, 390, 391, 392, 393, 233, 394, 235, 247, 395, 396, 397, 398, 399, 400, 401, 402, 403, 404, 405, 406, 29, 28, 407, 408, 409, 410, 411, 412, 413, 414, 415, 416, 417, 418, 419, 420, 248, 512, 513, 514, 543, 544, 545, 546, 547, 548, 549, 550, 551, 552, 553, 554, 555, 556, 557, 558, 538, 539] (by decide +kernel) (by decide +kernel)
set_option maxRecDepth 20000 in
theorem gL_law_X4_write : GoodIn wsL_law (wsV RL 52 RX4 yX4_write wsX4_write) := goodIn_app (goodIn_of _ (by decide +kernel)) ggL_law_X4_write
set_option maxRecDepth 20000 in
theorem ggL_law_X4_size : GoodIn wsL_law wsX4_size := goodIn_r _ [452, 14, 168, 64, 65, 66, 2, 67, 373, 374, 375, 383, 384, 385, 63, 386, 73, 377, 378, 379, 380, 381, 382, 512, 513, 514, 543, 544, 545, 546, 547, 548, 549, 550, 551, 552, 553, 554, 555, 556, 557, 558] (by decide +kernel) (by decide +kernel)
set_option maxRecDepth 20000 in
theorem gL_law_X4_size : GoodIn wsL_law (wsV RL 57 RX4 yX4_size wsX4_size) := goodIn_app (goodIn_of _ (by decide +kernel)) ggL_law_X4_size
set_option maxRecDepth 20000 in
theorem ggL_law_X4_out : GoodIn wsL_law wsX4_out := goodIn_r _ [460, 18, 296, 297, 298, 17, 299, 29, 28, 512, 513, 514, 538, 539] (by decide +kernel) (by decide +kernel)
set_option maxRecDepth 20000 in
theorem gL_law_X4_out : GoodIn wsL_law (wsV RL 62 RX4 yX4_out wsX4_out) := goodIn_app (goodIn_of _ (by decide +kernel)) ggL_law_X4_out
end
section
set_option maxRecDepth 20000 in
theorem ggL_law_X5_init : GoodIn wsL_law wsX5_init := goodIn_r _ [35, 36, 11, 12, 37, 38, 39, 27, 40, 41, 42, 43, 44, 45, 46, 47, 48, 49, 50, 51, 52, 53, 54, 55, 56, 57, 515, 516, 517, 518, 519, 520, 521, 522, 523, 524, 525, 526, 527, 528, 529, 530, 531, 532, 533, 534, 535, 536, 537] (by decide +kernel) (by decide +kernel)
set_option maxRecDepth 20000 in
theorem gL_law_X5_init : GoodIn wsL_law (wsX5_init) := ggL_law_X5_init
set_option maxRecDepth 20000 in
theorem ggL_law_X5_open : GoodIn wsL_law wsX5_open := goodIn_r _ [96, 38, 39, 40, 42, 44, 97, 98, 5, 99, 100, 101, 102, 103, 56, 43, 49, 50, 52, 53, 54, 51, 41, 104, 105, 106, 107, 108, 109, 110, 111, 112, 113, 114, 115, 116, 117, 118, 119, 120, 121, 122, 123, 124, 125, 126, 127, 128, 129, 130, 131, 132, 133, 134, 135, 136, 137, 138, 139, 140, 141, 142, 143, 144, 145, 146, 147, 148, 149, 150, 151, 152, 153, 154, 155, 156, 157, 158, 159, 160, 161, 162, 45, 46, 47, 48, 515, 516, 517, 518, 519, 520, 521, 522, 523, 524, 525, 526, 527, 528, 529, 530, 531, 532, 533, 534, 535, 536, 537] (by decide +kernel) (by decide +kernel)
set_option maxRecDepth 20000 in
theorem gL_law_X5_open : GoodIn wsL_law (wsV RL 17 RX5 yX5_open wsX5_open) := goodIn_app (goodIn_of _ (by decide +kernel)) ggL_law_X5_open
set_option maxRecDepth 20000 in
theorem ggL_law_X5_end : GoodIn wsL_law wsX5_end := goodIn_r _ [311, 39, 49, 97, 98, 5, 99, 286, 287, 288, 289, 38, 100, 101, 102, 103, 44, 56, 43, 50, 52, 53, 54, 51, 41, 40, 104, 105, 42, 106, 107, 108, 109, 110, 111, 112, 113, 114, 115, 116, 117, 118, 119, 120, 121, 122, 123, 124, 125, 126, 127, 128, 129, 130, 131, 132, 133, 134, 135, 136, 137, 138, 139, 140, 141, 142, 143, 144, 145, 146, 147, 148, 149, 150, 151, 152, 153, 154, 155, 156, 157, 158, 159, 160, 161, 162, 45, 46, 47, 48, 515, 516, 517, 518, 519, 520, 521, 522, 523, 524, 525, 526, 527, 528, 529, 530, 531, 532, 533, 534, 535, 536, 537] (by decide +kernel) (by decide +kernel)
set_option maxRecDepth 20000 in
theorem gL_law_X5_end : GoodIn wsL_law (wsV RL 34 RX5 yX5_end wsX5_end) := goodIn_app (goodIn_of _ (by decide +kernel)) ggL_law_X5_end
set_option maxRecDepth 20000 in
theorem ggL_law_X5_at : GoodIn wsL_law wsX5_at := goodIn_r _ [367, 38, 49, 46, 47, 97, 98, 5, 99, 515, 516, 517, 518, 519, 520, 521, 522, 523, 524, 525, 526, 527, 528, 529, 530, 531, 532, 533, 534, 535, 536, 537] (by decide +kernel) (by decide +kernel)
set_option maxRecDepth 20000 in
theorem gL_law_X5_at : GoodIn wsL_law (wsV RL 51 RX5 yX5_at wsX5_at) := goodIn_app (goodIn_of _ (by decide +kernel)) ggL_law_X5_at
set_option maxRecDepth 20000 in
theorem ggL_law_X5_out : GoodIn wsL_law wsX5_out := goodIn_r _ [464, 57, 55, 515, 516, 517, 518, 519, 520, 521, 522, 523, 524, 525, 526, 527, 528, 529, 530, 531, 532, 533, 534, 535, 536, 537] (by decide +kernel) (by decide +kernel)
set_option maxRecDepth 20000 in
theorem gL_law_X5_out : GoodIn wsL_law (wsV RL 65 RX5 yX5_out wsX5_out) := goodIn_app (goodIn_of _ (by decide +kernel)) ggL_law_X5_out
set_option maxRecDepth 20000 in
theorem ggL_law_X5_check : GoodIn wsL_law wsX5_check := goodIn_r _ [476, 57, 56, 55, 105, 427, 428, 5, 429, 115, 116, 117, 118, 104, 119, 120, 121, 122, 123, 124, 125, 126, 127, 128, 129, 130, 131, 132, 133, 134, 135, 136, 137, 138, 139, 140, 141, 142, 143, 144, 145, 146, 147, 148, 149, 150, 151, 152, 153, 154, 155, 156, 157, 158, 515, 516, 517, 518, 519, 520, 521, 522, 523, 524, 525, 526, 527, 528, 529, 530, 531, 532, 533, 534, 535, 536, 537] (by decide +kernel) (by decide +kernel)
set_option maxRecDepth 20000 in
theorem gL_law_X5_check : GoodIn wsL_law (wsV RL 69 RX5 yX5_check wsX5_check) := goodIn_app (goodIn_of _ (by decide +kernel)) ggL_law_X5_check
set_option maxRecDepth 20000 in
theorem ggL_law_X5_order : GoodIn wsL_law wsX5_order := goodIn_r _ [495, 38, 49, 45, 97, 98, 5, 99, 496, 497, 498, 499, 426, 56, 433, 434, 435, 436, 120, 145, 146, 437, 438, 439, 440, 441, 442, 443, 444, 445, 446, 447, 448, 515, 516, 517, 518, 519, 520, 521, 522, 523, 524, 525, 526, 527, 528, 529, 530, 531, 532, 533, 534, 535, 536, 537] (by decide +kernel) (by decide +kernel)
set_option maxRecDepth 20000 in
theorem gL_law_X5_order : GoodIn wsL_law (wsV RL 73 RX5 yX5_order wsX5_order) := goodIn_app (goodIn_of _ (by decide +kernel)) ggL_law_X5_order
set_option maxRecDepth 20000 in
theorem ggL_law_X5_among : GoodIn wsL_law wsX5_among := goodIn_r _ [511, 38, 49, 45, 97, 98, 5, 99, 515, 516, 517, 518, 519, 520, 521, 522, 523, 524, 525, 526, 527, 528, 529, 530, 531, 532, 533, 534, 535, 536, 537] (by decide +kernel) (by decide +kernel)
set_option maxRecDepth 20000 in
theorem gL_law_X5_among : GoodIn wsL_law (wsV RL 77 RX5 yX5_among wsX5_among) := goodIn_app (goodIn_of _ (by decide +kernel)) ggL_law_X5_among
end
section
set_option maxRecDepth 20000 in
theorem ggL_law_X5_put : GoodIn wsL_law wsX5_put := goodIn_r _ [285, 44, 43, 49, 97, 98, 5, 99, 286, 287, 288, 289, 38, 39, 100, 101, 102, 103, 56, 50, 52, 53, 54, 51, 41, 40, 104, 105, 42, 106, 107, 108, 109, 110, 111, 112, 113, 114, 115, 116, 117, 118, 119, 120, 121, 122, 123, 124, 125, 126, 127, 128, 129, 130, 131, 132, 133, 134, 135, 136, 137, 138, 139, 140, 141, 142, 143, 144, 145, 146, 147, 148, 149, 150, 151, 152, 153, 154, 155, 156, 157, 158, 159, 160, 161, 162, 45, 46, 47, 48, 515, 516, 517, 518, 519, 520, 521, 522, 523, 524, 525, 526, 527, 528, 529, 530, 531, 532, 533, 534, 535, 536, 537] (by decide +kernel) (by decide +kernel)
set_option maxRecDepth 20000 in
theorem gL_law_X5_put : GoodIn wsL_law (wsV RL 24 RX5 yX5_put wsX5_put) := goodIn_app (goodIn_of _ (by decide +kernel)) ggL_law_X5_put
set_option maxRecDepth 20000 in
theorem ggL_law_X5_pour : GoodIn wsL_law wsX5_pour := goodIn_r _ [303, 57, 44, 43, 55, 97, 98, 5, 99, 286, 287, 288, 289, 38, 39, 100, 101, 102, 103, 56, 49, 50, 52, 53, 54, 51, 41, 40, 104, 105, 42, 106, 107, 108, 109, 110, 111, 112, 113, 114, 115, 116, 117, 118, 119, 120, 121, 122, 123, 124, 125, 126, 127, 128, 129, 130, 131, 132, 133, 134, 135, 136, 137, 138, 139, 140, 141, 142, 143, 144, 145, 146, 147, 148, 149, 150, 151, 152, 153, 154, 155, 156, 157, 158, 159, 160, 161, 162, 45, 46, 47, 48, 515, 516, 517, 518, 519, 520, 521, 522, 523, 524, 525, 526, 527, 528, 529, 530, 531, 532, 533, 534, 535, 536, 537] (by decide +kernel) (by decide +kernel)
set_option maxRecDepth 20000 in
theorem gL_law_X5_pour : GoodIn wsL_law (wsV RL 29 RX5 yX5_pour wsX5_pour) := goodIn_app (goodIn_of _ (by decide +kernel)) ggL_law_X5_pour
set_option maxRecDepth 20000 in
theorem ggL_law_X5_sign : GoodIn wsL_law wsX5_sign := goodIn_r _ [340, 45, 341, 342, 343, 5, 344, 38, 49, 97, 98, 99, 515, 516, 517, 518, 519, 520, 521, 522, 523, 524, 525, 526, 527, 528, 529, 530, 531, 532, 533, 534, 535, 536, 537] (by decide +kernel) (by decide +kernel)
set_option maxRecDepth 20000 in
theorem gL_law_X5_sign : GoodIn wsL_law (wsV RL 43 RX5 yX5_sign wsX5_sign) := goodIn_app (goodIn_of _ (by decide +kernel)) ggL_law_X5_sign
set_option maxRecDepth 20000 in
theorem ggL_law_X5_placed : GoodIn wsL_law wsX5_placed := goodIn_r _ [355, 46, 47, 48, 341, 342, 343, 5, 344, 38, 49, 97, 98, 99, 515, 516, 517, 518, 519, 520, 521, 522, 523, 524, 525, 526, 527, 528, 529, 530, 531, 532, 533, 534, 535, 536, 537] (by decide +kernel) (by decide +kernel)
set_option maxRecDepth 20000 in
theorem gL_law_X5_placed : GoodIn wsL_law (wsV RL 47 RX5 yX5_placed wsX5_placed) := goodIn_app (goodIn_of _ (by decide +kernel)) ggL_law_X5_placed
set_option maxRecDepth 20000 in
theorem ggL_law_X5_write : GoodIn wsL_law wsX5_write := goodIn_r _ [424, 38, 425, 49, 45, 426, 55, 56, 57, 97, 98, 5, 99, 427, 428, 429, 430, 431, 432, 145, 433, 434, 435, 436, 120, 146, 437, 438, 439, 440, 441, 442, 443, 444, 445, 446, 447, 448, 515, 516, 517, 518, 519, 520, 521, 522, 523, 524, 525, 526, 527, 528, 529, 530, 531, 532, 533, 534, 535, 536, 537] (by decide +kernel) (by decide +kernel)
set_option maxRecDepth 20000 in
theorem gL_law_X5_write : GoodIn wsL_law (wsV RL 56 RX5 yX5_write wsX5_write) := goodIn_app (goodIn_of _ (by decide +kernel)) ggL_law_X5_write
set_option maxRecDepth 20000 in
theorem ggL_law_X5_size : GoodIn wsL_law wsX5_size := goodIn_r _ [456, 38, 49, 45, 97, 98, 5, 99, 427, 428, 429, 430, 431, 432, 145, 515, 516, 517, 518, 519, 520, 521, 522, 523, 524, 525, 526, 527, 528, 529, 530, 531, 532, 533, 534, 535, 536, 537] (by decide +kernel) (by decide +kernel)
set_option maxRecDepth 20000 in
theorem gL_law_X5_size : GoodIn wsL_law (wsV RL 61 RX5 yX5_size wsX5_size) := goodIn_app (goodIn_of _ (by decide +kernel)) ggL_law_X5_size
end
section
/-! THE CLAIM OUT OF ONE WALK OF THE LAW'S BODY. Your part is whole_start (and what it stands on); all else here is the same for every law, but numbers. -/
def R_law : String := "SignFormsLaw"
def lw_P (b : Addr) (xs : List Int32) (args : Array Value) (s : State) : Prop := args = #[.ref b] ∧ s.IntsAt b xs ∧ xs.length ≤ 5 ∧ (Jvm.Cond.and given_1 narrow_1).before args s = true
def lw_Q (_ : Array Value) (s : State) (o : Outcome) (t : State) : Prop := o = .returned (some (.int 1)) ∧ Framed s o t [] 600000 7302250
def lw_Z (below : List Frame) (a : Array Value) (s : State) : State → Prop := fun t => ∃ o, t.status = .running ∧ Ended t below o ∧ lw_Q a s o t
/-- the law's own end, with 1 on the stack, nothing written that was there before, its room as the claim has it -/
theorem lw_ret {p : Program} {l : Launch} {e : Env} {s : State} {m : MethodId} {below : List Frame} {meth : Method} {c : Code} {b : Nat} (hx : p.tables.exec = Jvm.exec) (hb : c.code = code) (hr : meth.sig.returnType = ret) (hlocks : meth.locks = false) {pc : Nat} {H : Heap} {ls : Array Slot} (hdg : decode code pc = .ok (.ireturn, 1)) : W p l e room_1 s m #[Value.ref b] below meth c H [] 600000 7302250 (lw_Z below #[Value.ref b] s) (F0 m pc ls [.int 1]) := by
  intro T hT X
  obtain ⟨fs, hret, hrun, hended, hW, hframe⟩ := X.leave (v := some (.int 1)) (hlocks := hlocks) (fun h => by rw [hr] at h; cases h)
  have hmeth' : T.vm.method? m = some meth := X.method'
  refine ⟨T.setFrames fs, ?_, .returned (some (.int 1)), hrun, hended, rfl, ⟨_, rfl⟩, hW, hframe⟩
  jvm_step X.here [X.here.top, hx, hb, hdg, hmeth', hr, ret, narrow_b1]
  (try refine ⟨rfl, ?_⟩); (try refine ⟨rfl, ?_⟩)
  first | (intro acts; rw [hret _ acts rfl rfl rfl]) | rw [hret _ _ rfl rfl rfl]
  exact Steps.refl _
/-- what holds at the law's entry: the machine, the code, the tables' words (any of lw_tbl by 'hts w (by decide +kernel)'), the script of L ints xs at the cell b, what the Statement gives of the start (any of its parts by flat_of_before) -/
def lw_At (p : Program) (s : State) (m : MethodId) (meth : Method) (c : Code) (b L : Nat) (xs : Nat → Int32) : Prop :=
  p.tables.exec = Jvm.exec ∧ c.code = code ∧ meth.sig.returnType = ret ∧ c.maxLocals = 4 ∧ s.vm.findClass R_law = some m.cls ∧ (∀ w ∈ lw_tbl, w.before #[Value.ref b] s = true) ∧ va_X b L xs s s.heap ∧ b < s.heap.size ∧ meth.locks = false ∧ (Jvm.Cond.and given_1 narrow_1).before #[Value.ref b] s = true
theorem zz_same {r q : Int32} {P : Prop} (h : (r = 1 ∧ P) ∨ (r = 0 ∧ ¬ P)) (g : (q = 1 ∧ P) ∨ (q = 0 ∧ ¬ P)) : r = q := by
  rcases h with ⟨h, a⟩ | ⟨h, a⟩ <;> rcases g with ⟨g, b⟩ | ⟨g, b⟩
  · rw [h, g]
  · exact absurd a b
  · exact absurd b a
  · rw [h, g]
theorem lq_iX1 : Cond.instantiable RX1 2 ∈ lw_tbl := wsL_law_in _ (by decide +kernel)
theorem lq_iX2 : Cond.instantiable RX2 3 ∈ lw_tbl := wsL_law_in _ (by decide +kernel)
theorem lq_iX3 : Cond.instantiable RX3 16 ∈ lw_tbl := wsL_law_in _ (by decide +kernel)
theorem lq_iX4 : Cond.instantiable RX4 3 ∈ lw_tbl := wsL_law_in _ (by decide +kernel)
theorem lq_iX5 : Cond.instantiable RX5 23 ∈ lw_tbl := wsL_law_in _ (by decide +kernel)
end
section
set_option maxHeartbeats 40000000 in
set_option maxRecDepth 100000 in
theorem whole_start {p : Program} {e : Env} {s : State} {m : MethodId} {below : List Frame} {meth : Method} {c : Code} (l : Launch) {b L : Nat} {xs : Nat → Int32} (hL : L ≤ 5) (C0 : lw_At p s m meth c b L xs) : W p l e room_1 s m #[Value.ref b] below meth c s.heap [] 0 0 (lw_Z below #[Value.ref b] s) (entryFrame m ([Value.ref b] : List Value).toArray 4) := by
  obtain ⟨hx, hb, hr, hml, hown, hts0, hX, hbl, hlocks, hgv⟩ := id C0
  have hown : s.vm.findClass RL = some m.cls := hown
  have hb : c.code = cL_law := hb
  have hts : ∀ w ∈ wsL_law, w.before #[Value.ref b] s = true := fun w h => hts0 w (wsL_law_in w h)
  have hAO : va_AO "SignForms$Stream" s := va_AO.of (hts0 _ lq_ao)
  have hN4 : va_Nw (.methodLinkNest RX4 24 yX2_init "SignForms") s := va_Nw.of rfl (hts0 _ lq_n4)
  have hN3 : va_Nw (.methodLinkNest RX3 29 yX2_init "SignForms") s := va_Nw.of rfl (hts0 _ lq_n3)
  have hA : ∀ q : Nat, s.heap.size ≤ q → (fun q : Nat => s.heap.size ≤ q) q := fun _ h => h
  have hbA : ¬ (fun q : Nat => s.heap.size ≤ q) b := Nat.not_le.mpr hbl
  obtain ⟨c0, iS0, hKn0⟩ := u_known (C := RX1) (T := TX1) (N := 2) (n := 2) hts0 inX1 (hts0 _ lq_iX1)
  obtain ⟨c1, iS1, hKn1⟩ := u_known (C := RX2) (T := TX2) (N := 3) (n := 3) hts0 inX2 (hts0 _ lq_iX2)
  obtain ⟨c2, iS2, hKn2⟩ := u_known (C := RX3) (T := TX3) (N := 16) (n := 16) hts0 inX3 (hts0 _ lq_iX3)
  obtain ⟨c3, iS3, hKn3⟩ := u_known (C := RX4) (T := TX4) (N := 3) (n := 3) hts0 inX4 (hts0 _ lq_iX4)
  obtain ⟨c4, iS4, hKn4⟩ := u_known (C := RX5) (T := TX5) (N := 23) (n := 23) hts0 inX5 (hts0 _ lq_iX5)
  obtain ⟨dC, dI, hKc⟩ : ∃ (dC : Nat → ClassId) (dI : Nat → Nat → Nat), ∀ (k : Nat) (q : vw_C), vwCl[k]? = some q → u_Kn s q.1 q.2.1 q.2.2 (dC k) (dI k) := by
    refine ⟨fun k => if k = 0 then c0 else if k = 1 then c1 else if k = 2 then c2 else if k = 3 then c3 else c4, fun k => if k = 0 then iS0 else if k = 1 then iS1 else if k = 2 then iS2 else if k = 3 then iS3 else iS4, ?_⟩
    intro k q hq
    match k, hq with
    | 0, hq => cases hq; exact hKn0
    | 1, hq => cases hq; exact hKn1
    | 2, hq => cases hq; exact hKn2
    | 3, hq => cases hq; exact hKn3
    | 4, hq => cases hq; exact hKn4
    | k + 5, hq => simp [vwCl] at hq
  have hS : va_S (fun q : Nat => s.heap.size ≤ q) s.heap s.heap [] := va_S.rf
  have hK : va_K (dC, dI) vwCl [] s := ⟨hKc, fun k q h => by simp at h⟩
  have hP : va_P (dC, dI) vwCl [] s.heap := fun k q h => by simp at h
  have hD : va_D (fun q : Nat => s.heap.size ≤ q) [] := ⟨fun i j p q h => by simp at h, fun k q h => by simp at h⟩
  have hl := lv_entry ([.ref b]) (n := 4) (Nat.le_of_ble_eq_true rfl)
  rw [lg_entry_eq]
  generalize (lg_sl ([.ref b]) ++ List.replicate (4 - (lg_sl ([.ref b])).length) Slot.unset).toArray = ls at hl ⊢
  have hl : lv_has ls 4 [(0, .ref b)] := hl
  refine va_new (ci := 3) (fs := [.null, .null, .null]) (C := RX4) (T := TX4) (N := 3) hx hb hts inlX4 tyX4 tyX4_ok hown (hts (.classLink RL 7 RX4) (by decide +kernel)) (hts (.instantiable RX4 3) (by decide +kernel)) (hts (.initialized RX4) (by decide +kernel)) hK hP hD hS hA rfl (fun j hj => by rcases (show j = 0 ∨ j = 1 ∨ j = 2 by omega) with rfl | rfl | rfl <;> rfl) (Nat.le_of_ble_eq_true rfl) (Nat.le_of_ble_eq_true rfl) dL_law_0 (fun h0 H hP hD hS => ?_)
  have hP : va_P (dC, dI) vwCl [(h0, .inr (3, [.null, .null, .null]))] H := hP
  have hD : va_D (fun q : Nat => s.heap.size ≤ q) [(h0, .inr (3, [.null, .null, .null]))] := hD
  refine W.widen (k := 1) (n := 3) (by omega) (by omega) ?_
  refine lv_dup hx hb dL_law_3 rfl ?_
  have hPc := hP.sub (ws' := [(h0, .inr (3, [.null, .null, .null]))]) [0] rfl
  have hKc := hK.sub (tys' := []) [] rfl
  have hDc := hD.sub (ws' := [(h0, .inr (3, [.null, .null, .null]))]) [0] (by decide) rfl
  have hFc := va_free (wc := [(h0, .inr (3, [.null, .null, .null]))]) hD hS hA [0] rfl
  refine va_callv (va_runI (As := []) (rest := [.ref h0]) ⟨hx, hb, hml, hown, hts⟩ (kX4_init l dC dI h0 H.size) (cwI 0 hts gL_law_X4_init rfl rfl rfl (hts (.initialized RX4) (by decide +kernel)) (hts (.methodLink RL 9 yX4_init) (by decide +kernel)) (hts (.instanceMethod yX4_init) (by decide +kernel)) rfl (by decide +kernel) ⟨Nat.le_of_ble_eq_true rfl, Nat.le_of_ble_eq_true rfl⟩) ⟨fun a U g mk q => by obtain ⟨q0, q1, qP, qK, qD, qn0, qn1⟩ := q; exact ⟨q0, q1, qP, va_K.moved (u := U) (U := U.calling g mk a) (Vm.Alike.refl U.vm) qK, qD, va_AO.moved (u := U) (U := U.calling g mk a) (Vm.Alike.refl U.vm) qn0, va_Nw.same (u := U) (U := U.calling g mk a) rfl rfl qn1⟩, fun U hU hW => ⟨rfl, by rw [hU], by rw [hU]; exact hPc, va_K.moved hW.alike hKc, hDc.weaken (fun _ _ _ _ => trivial), va_AO.moved hW.alike hAO, va_Nw.warmM hW hN4⟩⟩ rfl rfl hl.1 rfl (lv_room (Nat.le_of_ble_eq_true rfl)) dL_law_4 ⟨Nat.le_of_ble_eq_true rfl, Nat.le_of_ble_eq_true rfl⟩) hS (fun q _ h => hFc q h) hFc (fun u t H1 locs ht hvm hwr_1 hB hz1 hk1 hS => ?_)
  obtain ⟨h1, h2, h3, h4, kS, kI, hP1, hK1, hD1⟩ := hB
  rw [ht] at hP1
  have hK1 := va_K.moved hvm.symm hK1
  have hK := (hK.sub (tys' := []) [] rfl).app hK1
  obtain ⟨hP, hD⟩ := va_join (wr := []) (w1 := [(h0, .inr (3, [.ref h1, .ref h2, .ref h4])), (h1, .inl (kS, 4, .inr (.inr (.inr (.inr (fun _ => none)))))), (h2, .inr (0, [.ref h3, .int 0])), (h3, .inl (kI, 6000, .inl (fun _ => 0))), (h4, .inr (1, [.int 0, .int 0, .int 0]))]) hP hD [0] [] rfl rfl (by decide) (by decide) hk1 hFc hP1 hD1
  generalize H1 = H at hP hS ⊢
  have hP : va_P (dC, dI) vwCl [(h0, .inr (3, [.ref h1, .ref h2, .ref h4])), (h1, .inl (kS, 4, .inr (.inr (.inr (.inr (fun _ => none)))))), (h2, .inr (0, [.ref h3, .int 0])), (h3, .inl (kI, 6000, .inl (fun _ => 0))), (h4, .inr (1, [.int 0, .int 0, .int 0]))] H := hP
  have hD : va_D (fun q : Nat => s.heap.size ≤ q) [(h0, .inr (3, [.ref h1, .ref h2, .ref h4])), (h1, .inl (kS, 4, .inr (.inr (.inr (.inr (fun _ => none)))))), (h2, .inr (0, [.ref h3, .int 0])), (h3, .inl (kI, 6000, .inl (fun _ => 0))), (h4, .inr (1, [.int 0, .int 0, .int 0]))] := hD
  have hK : va_K (dC, dI) vwCl [(kS, .object "SignForms$Stream"), (kI, .int)] s := hK
  refine W.widen (k := 5) (n := 6012) (by omega) (by omega) ?_
  refine lv_astore_n (lv' := [(1, .ref h0), (0, .ref b)]) hx hb dL_law_7 rfl hl (by decide) rfl (fun ls hl => ?_)
  refine va_new (ci := 4) (fs := [.null, .null, .null, .null, .null, .null, .null, .null, .null, .null, .null, .null, .null, .null, .null, .null, .null, .null, .int 0, .null, .int 0, .int 0, .int 0]) (C := RX5) (T := TX5) (N := 23) hx hb hts inlX5 tyX5 tyX5_ok hown (hts (.classLink RL 10 RX5) (by decide +kernel)) (hts (.instantiable RX5 23) (by decide +kernel)) (hts (.initialized RX5) (by decide +kernel)) hK hP hD hS hA rfl (fun j hj => by rcases (show j = 0 ∨ j = 1 ∨ j = 2 ∨ j = 3 ∨ j = 4 ∨ j = 5 ∨ j = 6 ∨ j = 7 ∨ j = 8 ∨ j = 9 ∨ j = 10 ∨ j = 11 ∨ j = 12 ∨ j = 13 ∨ j = 14 ∨ j = 15 ∨ j = 16 ∨ j = 17 ∨ j = 18 ∨ j = 19 ∨ j = 20 ∨ j = 21 ∨ j = 22 by omega) with rfl | rfl | rfl | rfl | rfl | rfl | rfl | rfl | rfl | rfl | rfl | rfl | rfl | rfl | rfl | rfl | rfl | rfl | rfl | rfl | rfl | rfl | rfl <;> rfl) (Nat.le_of_ble_eq_true rfl) (Nat.le_of_ble_eq_true rfl) dL_law_8 (fun g0 H hP hD hS => ?_)
  have hP : va_P (dC, dI) vwCl [(h0, .inr (3, [.ref h1, .ref h2, .ref h4])), (h1, .inl (kS, 4, .inr (.inr (.inr (.inr (fun _ => none)))))), (h2, .inr (0, [.ref h3, .int 0])), (h3, .inl (kI, 6000, .inl (fun _ => 0))), (h4, .inr (1, [.int 0, .int 0, .int 0])), (g0, .inr (4, [.null, .null, .null, .null, .null, .null, .null, .null, .null, .null, .null, .null, .null, .null, .null, .null, .null, .null, .int 0, .null, .int 0, .int 0, .int 0]))] H := hP
  have hD : va_D (fun q : Nat => s.heap.size ≤ q) [(h0, .inr (3, [.ref h1, .ref h2, .ref h4])), (h1, .inl (kS, 4, .inr (.inr (.inr (.inr (fun _ => none)))))), (h2, .inr (0, [.ref h3, .int 0])), (h3, .inl (kI, 6000, .inl (fun _ => 0))), (h4, .inr (1, [.int 0, .int 0, .int 0])), (g0, .inr (4, [.null, .null, .null, .null, .null, .null, .null, .null, .null, .null, .null, .null, .null, .null, .null, .null, .null, .null, .int 0, .null, .int 0, .int 0, .int 0]))] := hD
  refine W.widen (k := 6) (n := 6035) (by omega) (by omega) ?_
  refine lv_dup hx hb dL_law_11 rfl ?_
  have hPc := hP.sub (ws' := [(g0, .inr (4, [.null, .null, .null, .null, .null, .null, .null, .null, .null, .null, .null, .null, .null, .null, .null, .null, .null, .null, .int 0, .null, .int 0, .int 0, .int 0]))]) [5] rfl
  have hKc := hK.sub (tys' := []) [] rfl
  have hDc := hD.sub (ws' := [(g0, .inr (4, [.null, .null, .null, .null, .null, .null, .null, .null, .null, .null, .null, .null, .null, .null, .null, .null, .null, .null, .int 0, .null, .int 0, .int 0, .int 0]))]) [5] (by decide) rfl
  have hFc := va_free (wc := [(g0, .inr (4, [.null, .null, .null, .null, .null, .null, .null, .null, .null, .null, .null, .null, .null, .null, .null, .null, .null, .null, .int 0, .null, .int 0, .int 0, .int 0]))]) hD hS hA [5] rfl
  refine va_callv (va_runI (As := []) (rest := [.ref g0]) ⟨hx, hb, hml, hown, hts⟩ (kX5_init l dC dI g0 H.size) (cwI 0 hts gL_law_X5_init rfl rfl rfl (hts (.initialized RX5) (by decide +kernel)) (hts (.methodLink RL 12 yX5_init) (by decide +kernel)) (hts (.instanceMethod yX5_init) (by decide +kernel)) rfl (by decide +kernel) ⟨Nat.le_of_ble_eq_true rfl, Nat.le_of_ble_eq_true rfl⟩) ⟨fun a U g mk q => by obtain ⟨q0, q1, qP, qK, qD⟩ := q; exact ⟨q0, q1, qP, va_K.moved (u := U) (U := U.calling g mk a) (Vm.Alike.refl U.vm) qK, qD⟩, fun U hU hW => ⟨rfl, by rw [hU], by rw [hU]; exact hPc, va_K.moved hW.alike hKc, hDc.weaken (fun _ _ _ _ => trivial)⟩⟩ rfl rfl hl.1 rfl (lv_room (Nat.le_of_ble_eq_true rfl)) dL_law_12 ⟨Nat.le_of_ble_eq_true rfl, Nat.le_of_ble_eq_true rfl⟩) hS (fun q _ h => hFc q h) hFc (fun u t H1 locs ht hvm hwr_2 hB hz1 hk1 hS => ?_)
  obtain ⟨g1, g2, g3, g4, g5, g6, g7, g8, g9, g10, g11, g12, g13, g14, g15, g16, g17, g18, g19, kG1, kG2, kG3, kG4, kG5, kG6, kG7, kG8, kG9, kG10, kG11, kG12, hP1, hK1, hD1⟩ := hB
  rw [ht] at hP1
  have hK1 := va_K.moved hvm.symm hK1
  have hK := (hK.sub (tys' := [(kS, .object "SignForms$Stream"), (kI, .int)]) [0, 1] rfl).app hK1
  obtain ⟨hP, hD⟩ := va_join (wr := [(h0, .inr (3, [.ref h1, .ref h2, .ref h4])), (h1, .inl (kS, 4, .inr (.inr (.inr (.inr (fun _ => none)))))), (h2, .inr (0, [.ref h3, .int 0])), (h3, .inl (kI, 6000, .inl (fun _ => 0))), (h4, .inr (1, [.int 0, .int 0, .int 0]))]) (w1 := [(g0, .inr (4, [.ref g1, .ref g2, .ref g3, .ref g4, .ref g5, .ref g6, .ref g7, .ref g8, .ref g9, .ref g10, .ref g11, .ref g12, .ref g13, .ref g14, .ref g15, .ref g16, .ref g17, .ref g18, .int 0, .ref g19, .int 0, .int 0, .int 0])), (g1, .inl (kG1, 4, .inl (fun _ => 0))), (g2, .inl (kG2, 4, .inl (fun _ => 0))), (g3, .inl (kG3, 4, .inl (fun _ => 0))), (g4, .inl (kG4, 4, .inl (fun _ => 0))), (g5, .inl (kG5, 4, .inl (fun _ => 0))), (g7, .inl (kG6, 4, .inl (fun _ => 0))), (g12, .inl (kG7, 4, .inl (fun _ => 0))), (g13, .inl (kG8, 4, .inl (fun _ => 0))), (g14, .inl (kG9, 4, .inl (fun _ => 0))), (g15, .inl (kG10, 4, .inl (fun _ => 0))), (g16, .inl (kG11, 4, .inl (fun _ => 0))), (g17, .inl (kG12, 4, .inl (fun _ => 0)))]) hP hD [5] [0, 1, 2, 3, 4] rfl rfl (by decide) (by decide) hk1 hFc hP1 hD1
  generalize H1 = H at hP hS ⊢
  have hP : va_P (dC, dI) vwCl [(h0, .inr (3, [.ref h1, .ref h2, .ref h4])), (h1, .inl (kS, 4, .inr (.inr (.inr (.inr (fun _ => none)))))), (h2, .inr (0, [.ref h3, .int 0])), (h3, .inl (kI, 6000, .inl (fun _ => 0))), (h4, .inr (1, [.int 0, .int 0, .int 0])), (g0, .inr (4, [.ref g1, .ref g2, .ref g3, .ref g4, .ref g5, .ref g6, .ref g7, .ref g8, .ref g9, .ref g10, .ref g11, .ref g12, .ref g13, .ref g14, .ref g15, .ref g16, .ref g17, .ref g18, .int 0, .ref g19, .int 0, .int 0, .int 0])), (g1, .inl (kG1, 4, .inl (fun _ => 0))), (g2, .inl (kG2, 4, .inl (fun _ => 0))), (g3, .inl (kG3, 4, .inl (fun _ => 0))), (g4, .inl (kG4, 4, .inl (fun _ => 0))), (g5, .inl (kG5, 4, .inl (fun _ => 0))), (g7, .inl (kG6, 4, .inl (fun _ => 0))), (g12, .inl (kG7, 4, .inl (fun _ => 0))), (g13, .inl (kG8, 4, .inl (fun _ => 0))), (g14, .inl (kG9, 4, .inl (fun _ => 0))), (g15, .inl (kG10, 4, .inl (fun _ => 0))), (g16, .inl (kG11, 4, .inl (fun _ => 0))), (g17, .inl (kG12, 4, .inl (fun _ => 0)))] H := hP
  have hD : va_D (fun q : Nat => s.heap.size ≤ q) [(h0, .inr (3, [.ref h1, .ref h2, .ref h4])), (h1, .inl (kS, 4, .inr (.inr (.inr (.inr (fun _ => none)))))), (h2, .inr (0, [.ref h3, .int 0])), (h3, .inl (kI, 6000, .inl (fun _ => 0))), (h4, .inr (1, [.int 0, .int 0, .int 0])), (g0, .inr (4, [.ref g1, .ref g2, .ref g3, .ref g4, .ref g5, .ref g6, .ref g7, .ref g8, .ref g9, .ref g10, .ref g11, .ref g12, .ref g13, .ref g14, .ref g15, .ref g16, .ref g17, .ref g18, .int 0, .ref g19, .int 0, .int 0, .int 0])), (g1, .inl (kG1, 4, .inl (fun _ => 0))), (g2, .inl (kG2, 4, .inl (fun _ => 0))), (g3, .inl (kG3, 4, .inl (fun _ => 0))), (g4, .inl (kG4, 4, .inl (fun _ => 0))), (g5, .inl (kG5, 4, .inl (fun _ => 0))), (g7, .inl (kG6, 4, .inl (fun _ => 0))), (g12, .inl (kG7, 4, .inl (fun _ => 0))), (g13, .inl (kG8, 4, .inl (fun _ => 0))), (g14, .inl (kG9, 4, .inl (fun _ => 0))), (g15, .inl (kG10, 4, .inl (fun _ => 0))), (g16, .inl (kG11, 4, .inl (fun _ => 0))), (g17, .inl (kG12, 4, .inl (fun _ => 0)))] := hD
  have hK : va_K (dC, dI) vwCl [(kS, .object "SignForms$Stream"), (kI, .int), (kG1, .boolean), (kG2, .boolean), (kG3, .int), (kG4, .int), (kG5, .int), (kG6, .int), (kG7, .int), (kG8, .int), (kG9, .int), (kG10, .int), (kG11, .int), (kG12, .boolean)] s := hK
  refine W.widen (k := 25) (n := 58083) (by omega) (by omega) ?_
  refine lv_astore_n (lv' := [(2, .ref g0), (1, .ref h0), (0, .ref b)]) hx hb dL_law_15 rfl hl (by decide) rfl (fun ls hl => ?_)
  refine lv_iconst (v := 0) hx hb dL_law_16 (by decide) ?_
  refine lv_istore_n (lv' := [(3, .int 0), (2, .ref g0), (1, .ref h0), (0, .ref b)]) hx hb dL_law_17 rfl hl (by decide) rfl (fun ls hl => ?_)
  rcases (show L = 0 ∨ L = 1 ∨ L = 2 ∨ L = 3 ∨ L = 4 ∨ L = 5 by omega) with rfl | rfl | rfl | rfl | rfl | rfl
  · refine lv_iload_n hx hb dL_law_18 rfl (lv_at hl 0 rfl) ?_
    refine lv_aload_n hx hb dL_law_19 rfl (lv_at hl 3 rfl) ?_
    refine va_slen hx hb hX hbl hbA hS dL_law_20 ?_
    refine W.eq (g2 := F0 m 21 ls [.int 0, .int 0]) rfl ?_
    refine lv_iconst (v := 5) hx hb dL_law_21 (by decide) ?_
    refine lv_isub hx hb dL_law_22 ?_
    refine lv_topi (fun x_3 ex_3 => ?_)
    obtain rfl : x_3 = (-5) := ex_3.trans (by decide)
    refine lv_icmp_gt (tgt := 678) hx hb dL_law_23 (by decide) (fun _ => ?_) (fun c_4 => False.elim (by revert c_4; decide))
    refine lv_iconst (v := 1) hx hb dL_law_678 (by decide) ?_
    refine va_forget (fun q hq => hS.2.2 q hq) ?_
    refine W.widen (k := 600000) (n := 7302250) (by omega) (by omega) ?_
    exact lw_ret hx hb hr hlocks dL_law_679
  · refine lv_iload_n hx hb dL_law_18 rfl (lv_at hl 0 rfl) ?_
    refine lv_aload_n hx hb dL_law_19 rfl (lv_at hl 3 rfl) ?_
    refine va_slen hx hb hX hbl hbA hS dL_law_20 ?_
    refine W.eq (g2 := F0 m 21 ls [.int 1, .int 0]) rfl ?_
    refine lv_iconst (v := 5) hx hb dL_law_21 (by decide) ?_
    refine lv_isub hx hb dL_law_22 ?_
    refine lv_topi (fun x_5 ex_5 => ?_)
    obtain rfl : x_5 = (-4) := ex_5.trans (by decide)
    refine lv_icmp_gt (tgt := 678) hx hb dL_law_23 (by decide) (fun _ => ?_) (fun c_6 => False.elim (by revert c_6; decide))
    refine lv_iconst (v := 1) hx hb dL_law_678 (by decide) ?_
    refine va_forget (fun q hq => hS.2.2 q hq) ?_
    refine W.widen (k := 600000) (n := 7302250) (by omega) (by omega) ?_
    exact lw_ret hx hb hr hlocks dL_law_679
  · refine lv_iload_n hx hb dL_law_18 rfl (lv_at hl 0 rfl) ?_
    refine lv_aload_n hx hb dL_law_19 rfl (lv_at hl 3 rfl) ?_
    refine va_slen hx hb hX hbl hbA hS dL_law_20 ?_
    refine W.eq (g2 := F0 m 21 ls [.int 2, .int 0]) rfl ?_
    refine lv_iconst (v := 5) hx hb dL_law_21 (by decide) ?_
    refine lv_isub hx hb dL_law_22 ?_
    refine lv_topi (fun x_7 ex_7 => ?_)
    obtain rfl : x_7 = (-3) := ex_7.trans (by decide)
    refine lv_icmp_gt (tgt := 678) hx hb dL_law_23 (by decide) (fun _ => ?_) (fun c_8 => False.elim (by revert c_8; decide))
    refine lv_iconst (v := 1) hx hb dL_law_678 (by decide) ?_
    refine va_forget (fun q hq => hS.2.2 q hq) ?_
    refine W.widen (k := 600000) (n := 7302250) (by omega) (by omega) ?_
    exact lw_ret hx hb hr hlocks dL_law_679
  · refine lv_iload_n hx hb dL_law_18 rfl (lv_at hl 0 rfl) ?_
    refine lv_aload_n hx hb dL_law_19 rfl (lv_at hl 3 rfl) ?_
    refine va_slen hx hb hX hbl hbA hS dL_law_20 ?_
    refine W.eq (g2 := F0 m 21 ls [.int 3, .int 0]) rfl ?_
    refine lv_iconst (v := 5) hx hb dL_law_21 (by decide) ?_
    refine lv_isub hx hb dL_law_22 ?_
    refine lv_topi (fun x_9 ex_9 => ?_)
    obtain rfl : x_9 = (-2) := ex_9.trans (by decide)
    refine lv_icmp_gt (tgt := 678) hx hb dL_law_23 (by decide) (fun _ => ?_) (fun c_10 => False.elim (by revert c_10; decide))
    refine lv_iconst (v := 1) hx hb dL_law_678 (by decide) ?_
    refine va_forget (fun q hq => hS.2.2 q hq) ?_
    refine W.widen (k := 600000) (n := 7302250) (by omega) (by omega) ?_
    exact lw_ret hx hb hr hlocks dL_law_679
  · refine lv_iload_n hx hb dL_law_18 rfl (lv_at hl 0 rfl) ?_
    refine lv_aload_n hx hb dL_law_19 rfl (lv_at hl 3 rfl) ?_
    refine va_slen hx hb hX hbl hbA hS dL_law_20 ?_
    refine W.eq (g2 := F0 m 21 ls [.int 4, .int 0]) rfl ?_
    refine lv_iconst (v := 5) hx hb dL_law_21 (by decide) ?_
    refine lv_isub hx hb dL_law_22 ?_
    refine lv_topi (fun x_11 ex_11 => ?_)
    obtain rfl : x_11 = (-1) := ex_11.trans (by decide)
    refine lv_icmp_gt (tgt := 678) hx hb dL_law_23 (by decide) (fun _ => ?_) (fun c_12 => False.elim (by revert c_12; decide))
    refine lv_iconst (v := 1) hx hb dL_law_678 (by decide) ?_
    refine va_forget (fun q hq => hS.2.2 q hq) ?_
    refine W.widen (k := 600000) (n := 7302250) (by omega) (by omega) ?_
    exact lw_ret hx hb hr hlocks dL_law_679
  · refine lv_iload_n hx hb dL_law_18 rfl (lv_at hl 0 rfl) ?_
    refine lv_aload_n hx hb dL_law_19 rfl (lv_at hl 3 rfl) ?_
    refine va_slen hx hb hX hbl hbA hS dL_law_20 ?_
    refine W.eq (g2 := F0 m 21 ls [.int 5, .int 0]) rfl ?_
    refine lv_iconst (v := 5) hx hb dL_law_21 (by decide) ?_
    refine lv_isub hx hb dL_law_22 ?_
    refine lv_topi (fun x_13 ex_13 => ?_)
    obtain rfl : x_13 = 0 := ex_13.trans (by decide)
    refine lv_icmp_gt (tgt := 678) hx hb dL_law_23 (by decide) (fun c_14 => False.elim (by revert c_14; decide)) (fun _ => ?_)
    refine lv_aload_n hx hb dL_law_26 rfl (lv_at hl 3 rfl) ?_
    refine lv_iload_n hx hb dL_law_27 rfl (lv_at hl 0 rfl) ?_
    refine va_sld hx hb hX hbl hbA hS (vp_in_iff.mpr (by decide)) dL_law_28 ?_
    refine lv_bipush (v := 15) hx hb dL_law_29 (by decide +kernel) ?_
    refine lv_iand hx hb dL_law_31 ?_
    refine lv_topi (fun x_15 ex_15 => ?_)
    have hm15 : 0 ≤ x_15.toInt ∧ x_15.toInt < 16 := by rw [ex_15]; exact vp_in_iff.mp (pk_andIn _ (m := 15) 4 (by decide) (by decide))
    rcases (show x_15.toInt = 0 ∨ x_15.toInt = 1 ∨ x_15.toInt = 2 ∨ x_15.toInt = 3 ∨ x_15.toInt = 4 ∨ x_15.toInt = 5 ∨ x_15.toInt = 6 ∨ x_15.toInt = 7 ∨ x_15.toInt = 8 ∨ x_15.toInt = 9 ∨ x_15.toInt = 10 ∨ x_15.toInt = 11 ∨ x_15.toInt = 12 ∨ x_15.toInt = 13 ∨ 14 ≤ x_15.toInt by omega) with hk | hk | hk | hk | hk | hk | hk | hk | hk | hk | hk | hk | hk | hk | hk
    · refine lv_tableIn (tgt := 104) hx hb dL_law_32 (by omega) (by omega) (by rw [hk]; rfl) (by decide) ?_
      refine lv_aload_n hx hb dL_law_104 rfl (lv_at hl 2 rfl) ?_
      refine lv_aload_n hx hb dL_law_105 rfl (lv_at hl 3 rfl) ?_
      refine lv_iload_n hx hb dL_law_106 rfl (lv_at hl 0 rfl) ?_
      refine lv_iconst (v := 1) hx hb dL_law_107 (by decide) ?_
      refine lv_iadd hx hb dL_law_108 ?_
      refine lv_topi (fun x_16 ex_16 => ?_)
      obtain rfl : x_16 = 1 := ex_16.trans (by decide)
      refine va_sld hx hb hX hbl hbA hS (vp_in_iff.mpr (by decide)) dL_law_109 ?_
      refine lv_aload_n hx hb dL_law_110 rfl (lv_at hl 3 rfl) ?_
      refine lv_iload_n hx hb dL_law_111 rfl (lv_at hl 0 rfl) ?_
      refine lv_iconst (v := 2) hx hb dL_law_112 (by decide) ?_
      refine lv_iadd hx hb dL_law_113 ?_
      refine lv_topi (fun x_17 ex_17 => ?_)
      obtain rfl : x_17 = 2 := ex_17.trans (by decide)
      refine va_sld hx hb hX hbl hbA hS (vp_in_iff.mpr (by decide)) dL_law_114 ?_
      refine lv_aload_n hx hb dL_law_115 rfl (lv_at hl 3 rfl) ?_
      refine lv_iload_n hx hb dL_law_116 rfl (lv_at hl 0 rfl) ?_
      refine lv_iconst (v := 3) hx hb dL_law_117 (by decide) ?_
      refine lv_iadd hx hb dL_law_118 ?_
      refine lv_topi (fun x_18 ex_18 => ?_)
      obtain rfl : x_18 = 3 := ex_18.trans (by decide)
      refine va_sld hx hb hX hbl hbA hS (vp_in_iff.mpr (by decide)) dL_law_119 ?_
      have hPc := hP.sub (ws' := [(h0, .inr (3, [.ref h1, .ref h2, .ref h4])), (h1, .inl (kS, 4, .inr (.inr (.inr (.inr (fun _ => none))))))]) [0, 1] rfl
      have hKc := hK.sub (tys' := [(kS, .object "SignForms$Stream")]) [0] rfl
      have hDc := hD.sub (ws' := [(h0, .inr (3, [.ref h1, .ref h2, .ref h4])), (h1, .inl (kS, 4, .inr (.inr (.inr (.inr (fun _ => none))))))]) [0, 1] (by decide) rfl
      have hFc := va_free (wc := [(h0, .inr (3, [.ref h1, .ref h2, .ref h4])), (h1, .inl (kS, 4, .inr (.inr (.inr (.inr (fun _ => none))))))]) hD hS hA [0, 1] rfl
      refine va_calli (va_runV (As := [.int (xs (1 : Int32).toNatClampNeg), .int (xs (2 : Int32).toNatClampNeg), .int (xs (3 : Int32).toNatClampNeg)]) (rest := []) ⟨hx, hb, hml, hown, hts⟩ (kX4_open l dC dI h0 h1 h2 h4 kS H.size (xs (1 : Int32).toNatClampNeg) (xs (2 : Int32).toNatClampNeg) (xs (3 : Int32).toNatClampNeg)) (cwV 3 hts gL_law_X4_open rfl rfl rfl (by decide +kernel) ⟨Nat.le_of_ble_eq_true rfl, Nat.le_of_ble_eq_true rfl⟩) ⟨fun a U g mk q => by obtain ⟨q0, q1, qP, qK, qD, qn0⟩ := q; exact ⟨q0, q1, qP, va_K.moved (u := U) (U := U.calling g mk a) (Vm.Alike.refl U.vm) qK, qD, va_Nw.same (u := U) (U := U.calling g mk a) rfl rfl qn0⟩, va_recv hKc hPc (ci := 3) (q0 := 0) rfl rfl, fun U hU hW => ⟨rfl, by rw [hU], by rw [hU]; exact hPc, va_K.moved hW.alike hKc, hDc.weaken (fun _ _ _ _ => trivial), va_Nw.warmM hW hN3⟩⟩ rfl rfl hl.1 rfl (lv_room (Nat.le_of_ble_eq_true rfl)) dL_law_120 ⟨Nat.le_of_ble_eq_true rfl, Nat.le_of_ble_eq_true rfl⟩) hS (fun q _ h => hFc q h) hFc (fun r_19 u t H1 locs ht hvm hwr_19 hB hz1 hk1 hS => ?_)
      have hP1 : va_P (dC, dI) vwCl [] t.heap := fun k q h => by simp at h
      have hD1 : va_D (va_A [(h0, .inr (3, [.ref h1, .ref h2, .ref h4])), (h1, .inl (kS, 4, .inr (.inr (.inr (.inr (fun _ => none))))))] H.size) [] := ⟨fun i j p q h => by simp at h, fun k q h => by simp at h⟩
      rw [ht] at hP1
      obtain ⟨hP, hD⟩ := va_join (wr := [(h2, .inr (0, [.ref h3, .int 0])), (h3, .inl (kI, 6000, .inl (fun _ => 0))), (h4, .inr (1, [.int 0, .int 0, .int 0])), (g0, .inr (4, [.ref g1, .ref g2, .ref g3, .ref g4, .ref g5, .ref g6, .ref g7, .ref g8, .ref g9, .ref g10, .ref g11, .ref g12, .ref g13, .ref g14, .ref g15, .ref g16, .ref g17, .ref g18, .int 0, .ref g19, .int 0, .int 0, .int 0])), (g1, .inl (kG1, 4, .inl (fun _ => 0))), (g2, .inl (kG2, 4, .inl (fun _ => 0))), (g3, .inl (kG3, 4, .inl (fun _ => 0))), (g4, .inl (kG4, 4, .inl (fun _ => 0))), (g5, .inl (kG5, 4, .inl (fun _ => 0))), (g7, .inl (kG6, 4, .inl (fun _ => 0))), (g12, .inl (kG7, 4, .inl (fun _ => 0))), (g13, .inl (kG8, 4, .inl (fun _ => 0))), (g14, .inl (kG9, 4, .inl (fun _ => 0))), (g15, .inl (kG10, 4, .inl (fun _ => 0))), (g16, .inl (kG11, 4, .inl (fun _ => 0))), (g17, .inl (kG12, 4, .inl (fun _ => 0)))]) (w1 := []) hP hD [0, 1] [2, 3, 4, 5, 6, 7, 8, 9, 10, 11, 12, 13, 14, 15, 16, 17] rfl rfl (by decide) (by decide) hk1 hFc hP1 hD1
      generalize H1 = H at hP hS ⊢
      have hP : va_P (dC, dI) vwCl [(h2, .inr (0, [.ref h3, .int 0])), (h3, .inl (kI, 6000, .inl (fun _ => 0))), (h4, .inr (1, [.int 0, .int 0, .int 0])), (g0, .inr (4, [.ref g1, .ref g2, .ref g3, .ref g4, .ref g5, .ref g6, .ref g7, .ref g8, .ref g9, .ref g10, .ref g11, .ref g12, .ref g13, .ref g14, .ref g15, .ref g16, .ref g17, .ref g18, .int 0, .ref g19, .int 0, .int 0, .int 0])), (g1, .inl (kG1, 4, .inl (fun _ => 0))), (g2, .inl (kG2, 4, .inl (fun _ => 0))), (g3, .inl (kG3, 4, .inl (fun _ => 0))), (g4, .inl (kG4, 4, .inl (fun _ => 0))), (g5, .inl (kG5, 4, .inl (fun _ => 0))), (g7, .inl (kG6, 4, .inl (fun _ => 0))), (g12, .inl (kG7, 4, .inl (fun _ => 0))), (g13, .inl (kG8, 4, .inl (fun _ => 0))), (g14, .inl (kG9, 4, .inl (fun _ => 0))), (g15, .inl (kG10, 4, .inl (fun _ => 0))), (g16, .inl (kG11, 4, .inl (fun _ => 0))), (g17, .inl (kG12, 4, .inl (fun _ => 0)))] H := hP
      have hD : va_D (fun q : Nat => s.heap.size ≤ q) [(h2, .inr (0, [.ref h3, .int 0])), (h3, .inl (kI, 6000, .inl (fun _ => 0))), (h4, .inr (1, [.int 0, .int 0, .int 0])), (g0, .inr (4, [.ref g1, .ref g2, .ref g3, .ref g4, .ref g5, .ref g6, .ref g7, .ref g8, .ref g9, .ref g10, .ref g11, .ref g12, .ref g13, .ref g14, .ref g15, .ref g16, .ref g17, .ref g18, .int 0, .ref g19, .int 0, .int 0, .int 0])), (g1, .inl (kG1, 4, .inl (fun _ => 0))), (g2, .inl (kG2, 4, .inl (fun _ => 0))), (g3, .inl (kG3, 4, .inl (fun _ => 0))), (g4, .inl (kG4, 4, .inl (fun _ => 0))), (g5, .inl (kG5, 4, .inl (fun _ => 0))), (g7, .inl (kG6, 4, .inl (fun _ => 0))), (g12, .inl (kG7, 4, .inl (fun _ => 0))), (g13, .inl (kG8, 4, .inl (fun _ => 0))), (g14, .inl (kG9, 4, .inl (fun _ => 0))), (g15, .inl (kG10, 4, .inl (fun _ => 0))), (g16, .inl (kG11, 4, .inl (fun _ => 0))), (g17, .inl (kG12, 4, .inl (fun _ => 0)))] := hD
      refine W.widen (k := 32) (n := 68102) (by omega) (by omega) ?_
      refine lv_aload_n hx hb dL_law_123 rfl (lv_at hl 1 rfl) ?_
      refine lv_aload_n hx hb dL_law_124 rfl (lv_at hl 3 rfl) ?_
      refine lv_iload_n hx hb dL_law_125 rfl (lv_at hl 0 rfl) ?_
      refine lv_iconst (v := 1) hx hb dL_law_126 (by decide) ?_
      refine lv_iadd hx hb dL_law_127 ?_
      refine lv_topi (fun x_20 ex_20 => ?_)
      obtain rfl : x_20 = 1 := ex_20.trans (by decide)
      refine va_sld hx hb hX hbl hbA hS (vp_in_iff.mpr (by decide)) dL_law_128 ?_
      refine lv_aload_n hx hb dL_law_129 rfl (lv_at hl 3 rfl) ?_
      refine lv_iload_n hx hb dL_law_130 rfl (lv_at hl 0 rfl) ?_
      refine lv_iconst (v := 2) hx hb dL_law_131 (by decide) ?_
      refine lv_iadd hx hb dL_law_132 ?_
      refine lv_topi (fun x_21 ex_21 => ?_)
      obtain rfl : x_21 = 2 := ex_21.trans (by decide)
      refine va_sld hx hb hX hbl hbA hS (vp_in_iff.mpr (by decide)) dL_law_133 ?_
      refine lv_aload_n hx hb dL_law_134 rfl (lv_at hl 3 rfl) ?_
      refine lv_iload_n hx hb dL_law_135 rfl (lv_at hl 0 rfl) ?_
      refine lv_iconst (v := 3) hx hb dL_law_136 (by decide) ?_
      refine lv_iadd hx hb dL_law_137 ?_
      refine lv_topi (fun x_22 ex_22 => ?_)
      obtain rfl : x_22 = 3 := ex_22.trans (by decide)
      refine va_sld hx hb hX hbl hbA hS (vp_in_iff.mpr (by decide)) dL_law_138 ?_
      have hPc := hP.sub (ws' := [(g0, .inr (4, [.ref g1, .ref g2, .ref g3, .ref g4, .ref g5, .ref g6, .ref g7, .ref g8, .ref g9, .ref g10, .ref g11, .ref g12, .ref g13, .ref g14, .ref g15, .ref g16, .ref g17, .ref g18, .int 0, .ref g19, .int 0, .int 0, .int 0])), (g1, .inl (kG1, 4, .inl (fun _ => 0))), (g2, .inl (kG2, 4, .inl (fun _ => 0))), (g3, .inl (kG3, 4, .inl (fun _ => 0))), (g4, .inl (kG4, 4, .inl (fun _ => 0))), (g5, .inl (kG5, 4, .inl (fun _ => 0))), (g7, .inl (kG6, 4, .inl (fun _ => 0))), (g12, .inl (kG7, 4, .inl (fun _ => 0))), (g13, .inl (kG8, 4, .inl (fun _ => 0))), (g14, .inl (kG9, 4, .inl (fun _ => 0))), (g15, .inl (kG10, 4, .inl (fun _ => 0))), (g16, .inl (kG11, 4, .inl (fun _ => 0))), (g17, .inl (kG12, 4, .inl (fun _ => 0)))]) [3, 4, 5, 6, 7, 8, 9, 10, 11, 12, 13, 14, 15] rfl
      have hKc := hK.sub (tys' := [(kG1, .boolean), (kG2, .boolean), (kG3, .int), (kG4, .int), (kG5, .int), (kG6, .int), (kG7, .int), (kG8, .int), (kG9, .int), (kG10, .int), (kG11, .int), (kG12, .boolean)]) [2, 3, 4, 5, 6, 7, 8, 9, 10, 11, 12, 13] rfl
      have hDc := hD.sub (ws' := [(g0, .inr (4, [.ref g1, .ref g2, .ref g3, .ref g4, .ref g5, .ref g6, .ref g7, .ref g8, .ref g9, .ref g10, .ref g11, .ref g12, .ref g13, .ref g14, .ref g15, .ref g16, .ref g17, .ref g18, .int 0, .ref g19, .int 0, .int 0, .int 0])), (g1, .inl (kG1, 4, .inl (fun _ => 0))), (g2, .inl (kG2, 4, .inl (fun _ => 0))), (g3, .inl (kG3, 4, .inl (fun _ => 0))), (g4, .inl (kG4, 4, .inl (fun _ => 0))), (g5, .inl (kG5, 4, .inl (fun _ => 0))), (g7, .inl (kG6, 4, .inl (fun _ => 0))), (g12, .inl (kG7, 4, .inl (fun _ => 0))), (g13, .inl (kG8, 4, .inl (fun _ => 0))), (g14, .inl (kG9, 4, .inl (fun _ => 0))), (g15, .inl (kG10, 4, .inl (fun _ => 0))), (g16, .inl (kG11, 4, .inl (fun _ => 0))), (g17, .inl (kG12, 4, .inl (fun _ => 0)))]) [3, 4, 5, 6, 7, 8, 9, 10, 11, 12, 13, 14, 15] (by decide) rfl
      have hFc := va_free (wc := [(g0, .inr (4, [.ref g1, .ref g2, .ref g3, .ref g4, .ref g5, .ref g6, .ref g7, .ref g8, .ref g9, .ref g10, .ref g11, .ref g12, .ref g13, .ref g14, .ref g15, .ref g16, .ref g17, .ref g18, .int 0, .ref g19, .int 0, .int 0, .int 0])), (g1, .inl (kG1, 4, .inl (fun _ => 0))), (g2, .inl (kG2, 4, .inl (fun _ => 0))), (g3, .inl (kG3, 4, .inl (fun _ => 0))), (g4, .inl (kG4, 4, .inl (fun _ => 0))), (g5, .inl (kG5, 4, .inl (fun _ => 0))), (g7, .inl (kG6, 4, .inl (fun _ => 0))), (g12, .inl (kG7, 4, .inl (fun _ => 0))), (g13, .inl (kG8, 4, .inl (fun _ => 0))), (g14, .inl (kG9, 4, .inl (fun _ => 0))), (g15, .inl (kG10, 4, .inl (fun _ => 0))), (g16, .inl (kG11, 4, .inl (fun _ => 0))), (g17, .inl (kG12, 4, .inl (fun _ => 0)))]) hD hS hA [3, 4, 5, 6, 7, 8, 9, 10, 11, 12, 13, 14, 15] rfl
      refine va_calli (va_runV (As := [.int (xs (1 : Int32).toNatClampNeg), .int (xs (2 : Int32).toNatClampNeg), .int (xs (3 : Int32).toNatClampNeg)]) (rest := [.int r_19]) ⟨hx, hb, hml, hown, hts⟩ (kX5_open l dC dI g0 g1 g2 g3 g4 g5 g6 g7 g8 g9 g10 g11 g12 g13 g14 g15 g16 g17 g18 g19 kG1 kG2 kG3 kG4 kG5 kG6 kG7 kG8 kG9 kG10 kG11 kG12 H.size (xs (1 : Int32).toNatClampNeg) (xs (2 : Int32).toNatClampNeg) (xs (3 : Int32).toNatClampNeg)) (cwV 3 hts gL_law_X5_open rfl rfl rfl (by decide +kernel) ⟨Nat.le_of_ble_eq_true rfl, Nat.le_of_ble_eq_true rfl⟩) ⟨fun a U g mk q => by obtain ⟨q0, q1, qP, qK, qD⟩ := q; exact ⟨q0, q1, qP, va_K.moved (u := U) (U := U.calling g mk a) (Vm.Alike.refl U.vm) qK, qD⟩, va_recv hKc hPc (ci := 4) (q0 := 0) rfl rfl, fun U hU hW => ⟨rfl, by rw [hU], by rw [hU]; exact hPc, va_K.moved hW.alike hKc, hDc.weaken (fun _ _ _ _ => trivial)⟩⟩ rfl rfl hl.1 rfl (lv_room (Nat.le_of_ble_eq_true rfl)) dL_law_139 ⟨Nat.le_of_ble_eq_true rfl, Nat.le_of_ble_eq_true rfl⟩) hS (fun q _ h => hFc q h) hFc (fun r_23 u t H1 locs ht hvm hwr_23 hB hz1 hk1 hS => ?_)
      have hP1 : va_P (dC, dI) vwCl [] t.heap := fun k q h => by simp at h
      have hD1 : va_D (va_A [(g0, .inr (4, [.ref g1, .ref g2, .ref g3, .ref g4, .ref g5, .ref g6, .ref g7, .ref g8, .ref g9, .ref g10, .ref g11, .ref g12, .ref g13, .ref g14, .ref g15, .ref g16, .ref g17, .ref g18, .int 0, .ref g19, .int 0, .int 0, .int 0])), (g1, .inl (kG1, 4, .inl (fun _ => 0))), (g2, .inl (kG2, 4, .inl (fun _ => 0))), (g3, .inl (kG3, 4, .inl (fun _ => 0))), (g4, .inl (kG4, 4, .inl (fun _ => 0))), (g5, .inl (kG5, 4, .inl (fun _ => 0))), (g7, .inl (kG6, 4, .inl (fun _ => 0))), (g12, .inl (kG7, 4, .inl (fun _ => 0))), (g13, .inl (kG8, 4, .inl (fun _ => 0))), (g14, .inl (kG9, 4, .inl (fun _ => 0))), (g15, .inl (kG10, 4, .inl (fun _ => 0))), (g16, .inl (kG11, 4, .inl (fun _ => 0))), (g17, .inl (kG12, 4, .inl (fun _ => 0)))] H.size) [] := ⟨fun i j p q h => by simp at h, fun k q h => by simp at h⟩
      rw [ht] at hP1
      obtain ⟨hP, hD⟩ := va_join (wr := [(h2, .inr (0, [.ref h3, .int 0])), (h3, .inl (kI, 6000, .inl (fun _ => 0))), (h4, .inr (1, [.int 0, .int 0, .int 0]))]) (w1 := []) hP hD [3, 4, 5, 6, 7, 8, 9, 10, 11, 12, 13, 14, 15] [0, 1, 2] rfl rfl (by decide) (by decide) hk1 hFc hP1 hD1
      generalize H1 = H at hP hS ⊢
      have hP : va_P (dC, dI) vwCl [(h2, .inr (0, [.ref h3, .int 0])), (h3, .inl (kI, 6000, .inl (fun _ => 0))), (h4, .inr (1, [.int 0, .int 0, .int 0]))] H := hP
      have hD : va_D (fun q : Nat => s.heap.size ≤ q) [(h2, .inr (0, [.ref h3, .int 0])), (h3, .inl (kI, 6000, .inl (fun _ => 0))), (h4, .inr (1, [.int 0, .int 0, .int 0]))] := hD
      refine lv_icmp_eq (tgt := 672) hx hb dL_law_142 (by decide) (fun _ => ?_) (fun c_24 => False.elim (by first | exact c_24 (hwr_19.trans hwr_23.symm) | exact c_24 (zz_same hwr_19 hwr_23)))
      refine lv_iinc (v := 5) (lv' := [(3, .int 5), (2, .ref g0), (1, .ref h0), (0, .ref b)]) hx hb dL_law_672 hl (k := 0) rfl (by decide) (by decide) rfl (fun ls hl => ?_)
      refine lv_goto (tgt := 18) hx hb dL_law_675 (by decide) ?_
      refine lv_iload_n hx hb dL_law_18 rfl (lv_at hl 0 rfl) ?_
      refine lv_aload_n hx hb dL_law_19 rfl (lv_at hl 3 rfl) ?_
      refine va_slen hx hb hX hbl hbA hS dL_law_20 ?_
      refine W.eq (g2 := F0 m 21 ls [.int 5, .int 5]) rfl ?_
      refine lv_iconst (v := 5) hx hb dL_law_21 (by decide) ?_
      refine lv_isub hx hb dL_law_22 ?_
      refine lv_topi (fun x_26 ex_26 => ?_)
      obtain rfl : x_26 = 0 := ex_26.trans (by decide)
      refine lv_icmp_gt (tgt := 678) hx hb dL_law_23 (by decide) (fun _ => ?_) (fun c_27 => False.elim (by revert c_27; decide))
      refine lv_iconst (v := 1) hx hb dL_law_678 (by decide) ?_
      refine va_forget (fun q hq => hS.2.2 q hq) ?_
      refine W.widen (k := 600000) (n := 7302250) (by omega) (by omega) ?_
      exact lw_ret hx hb hr hlocks dL_law_679
    · refine lv_tableIn (tgt := 147) hx hb dL_law_32 (by omega) (by omega) (by rw [hk]; rfl) (by decide) ?_
      refine lv_aload_n hx hb dL_law_147 rfl (lv_at hl 2 rfl) ?_
      refine lv_aload_n hx hb dL_law_148 rfl (lv_at hl 3 rfl) ?_
      refine lv_iload_n hx hb dL_law_149 rfl (lv_at hl 0 rfl) ?_
      refine lv_iconst (v := 1) hx hb dL_law_150 (by decide) ?_
      refine lv_iadd hx hb dL_law_151 ?_
      refine lv_topi (fun x_28 ex_28 => ?_)
      obtain rfl : x_28 = 1 := ex_28.trans (by decide)
      refine va_sld hx hb hX hbl hbA hS (vp_in_iff.mpr (by decide)) dL_law_152 ?_
      refine lv_aload_n hx hb dL_law_153 rfl (lv_at hl 3 rfl) ?_
      refine lv_iload_n hx hb dL_law_154 rfl (lv_at hl 0 rfl) ?_
      refine lv_iconst (v := 2) hx hb dL_law_155 (by decide) ?_
      refine lv_iadd hx hb dL_law_156 ?_
      refine lv_topi (fun x_29 ex_29 => ?_)
      obtain rfl : x_29 = 2 := ex_29.trans (by decide)
      refine va_sld hx hb hX hbl hbA hS (vp_in_iff.mpr (by decide)) dL_law_157 ?_
      refine lv_i2l hx hb dL_law_158 rfl ?_
      refine lv_bipush (v := 32) hx hb dL_law_159 (by decide +kernel) ?_
      refine lv_lshl hx hb dL_law_161 rfl ?_
      refine lv_topl (fun w_30 _ => ?_)
      refine lv_aload_n hx hb dL_law_162 rfl (lv_at hl 3 rfl) ?_
      refine lv_iload_n hx hb dL_law_163 rfl (lv_at hl 0 rfl) ?_
      refine lv_iconst (v := 3) hx hb dL_law_164 (by decide) ?_
      refine lv_iadd hx hb dL_law_165 ?_
      refine lv_topi (fun x_31 ex_31 => ?_)
      obtain rfl : x_31 = 3 := ex_31.trans (by decide)
      refine va_sld hx hb hX hbl hbA hS (vp_in_iff.mpr (by decide)) dL_law_166 ?_
      refine lv_i2l hx hb dL_law_167 rfl ?_
      refine lv_ldc2 (v := 4294967295) hx hb hown (hts (.constantLong RL 18 4294967295) (by decide +kernel)) dL_law_168 ?_
      refine lv_land hx hb dL_law_171 ?_
      refine lv_topl (fun w_32 _ => ?_)
      refine lv_lor hx hb dL_law_172 ?_
      refine lv_topl (fun w_33 _ => ?_)
      refine lv_aload_n hx hb dL_law_173 rfl (lv_at hl 3 rfl) ?_
      refine lv_iload_n hx hb dL_law_174 rfl (lv_at hl 0 rfl) ?_
      refine lv_iconst (v := 4) hx hb dL_law_175 (by decide) ?_
      refine lv_iadd hx hb dL_law_176 ?_
      refine lv_topi (fun x_34 ex_34 => ?_)
      obtain rfl : x_34 = 4 := ex_34.trans (by decide)
      refine va_sld hx hb hX hbl hbA hS (vp_in_iff.mpr (by decide)) dL_law_177 ?_
      have hPc := hP.sub (ws' := [(h0, .inr (3, [.ref h1, .ref h2, .ref h4])), (h1, .inl (kS, 4, .inr (.inr (.inr (.inr (fun _ => none))))))]) [0, 1] rfl
      have hKc := hK.sub (tys' := [(kS, .object "SignForms$Stream")]) [0] rfl
      refine vp_callSi (W.runV (As := [.int (xs (1 : Int32).toNatClampNeg), .long w_33, .int (xs (4 : Int32).toNatClampNeg)]) (rest := []) ⟨hx, hb, hml, hown, hts⟩ (kX4_put l dC dI h0 h1 h2 h4 kS (xs (1 : Int32).toNatClampNeg) w_33 (xs (4 : Int32).toNatClampNeg)) (cwV 3 hts gL_law_X4_put rfl rfl rfl (by decide +kernel) ⟨Nat.le_of_ble_eq_true rfl, Nat.le_of_ble_eq_true rfl⟩) ⟨fun a U g mk q => by obtain ⟨q0, qP, qK⟩ := q; exact ⟨q0, qP, va_K.moved (u := U) (U := U.calling g mk a) (Vm.Alike.refl U.vm) qK⟩, va_recv hKc hPc (ci := 3) (q0 := 0) rfl rfl, fun U hU hW => ⟨rfl, by rw [hU]; exact hPc, va_K.moved hW.alike hKc⟩⟩ rfl rfl hl.1 rfl (lv_room (Nat.le_of_ble_eq_true rfl)) dL_law_178 ⟨Nat.le_of_ble_eq_true rfl, Nat.le_of_ble_eq_true rfl⟩) (fun r_35 hwr_35 => ?_)
      refine lv_aload_n hx hb dL_law_181 rfl (lv_at hl 1 rfl) ?_
      refine lv_aload_n hx hb dL_law_182 rfl (lv_at hl 3 rfl) ?_
      refine lv_iload_n hx hb dL_law_183 rfl (lv_at hl 0 rfl) ?_
      refine lv_iconst (v := 1) hx hb dL_law_184 (by decide) ?_
      refine lv_iadd hx hb dL_law_185 ?_
      refine lv_topi (fun x_36 ex_36 => ?_)
      obtain rfl : x_36 = 1 := ex_36.trans (by decide)
      refine va_sld hx hb hX hbl hbA hS (vp_in_iff.mpr (by decide)) dL_law_186 ?_
      refine lv_aload_n hx hb dL_law_187 rfl (lv_at hl 3 rfl) ?_
      refine lv_iload_n hx hb dL_law_188 rfl (lv_at hl 0 rfl) ?_
      refine lv_iconst (v := 2) hx hb dL_law_189 (by decide) ?_
      refine lv_iadd hx hb dL_law_190 ?_
      refine lv_topi (fun x_37 ex_37 => ?_)
      obtain rfl : x_37 = 2 := ex_37.trans (by decide)
      refine va_sld hx hb hX hbl hbA hS (vp_in_iff.mpr (by decide)) dL_law_191 ?_
      refine lv_i2l hx hb dL_law_192 rfl ?_
      refine lv_bipush (v := 32) hx hb dL_law_193 (by decide +kernel) ?_
      refine lv_lshl hx hb dL_law_195 rfl ?_
      refine lv_topl (fun w_38 _ => ?_)
      refine lv_aload_n hx hb dL_law_196 rfl (lv_at hl 3 rfl) ?_
      refine lv_iload_n hx hb dL_law_197 rfl (lv_at hl 0 rfl) ?_
      refine lv_iconst (v := 3) hx hb dL_law_198 (by decide) ?_
      refine lv_iadd hx hb dL_law_199 ?_
      refine lv_topi (fun x_39 ex_39 => ?_)
      obtain rfl : x_39 = 3 := ex_39.trans (by decide)
      refine va_sld hx hb hX hbl hbA hS (vp_in_iff.mpr (by decide)) dL_law_200 ?_
      refine lv_i2l hx hb dL_law_201 rfl ?_
      refine lv_ldc2 (v := 4294967295) hx hb hown (hts (.constantLong RL 18 4294967295) (by decide +kernel)) dL_law_202 ?_
      refine lv_land hx hb dL_law_205 ?_
      refine lv_topl (fun w_40 _ => ?_)
      refine lv_lor hx hb dL_law_206 ?_
      refine lv_topl (fun w_41 _ => ?_)
      refine lv_aload_n hx hb dL_law_207 rfl (lv_at hl 3 rfl) ?_
      refine lv_iload_n hx hb dL_law_208 rfl (lv_at hl 0 rfl) ?_
      refine lv_iconst (v := 4) hx hb dL_law_209 (by decide) ?_
      refine lv_iadd hx hb dL_law_210 ?_
      refine lv_topi (fun x_42 ex_42 => ?_)
      obtain rfl : x_42 = 4 := ex_42.trans (by decide)
      refine va_sld hx hb hX hbl hbA hS (vp_in_iff.mpr (by decide)) dL_law_211 ?_
      have hPc := hP.sub (ws' := [(g0, .inr (4, [.ref g1, .ref g2, .ref g3, .ref g4, .ref g5, .ref g6, .ref g7, .ref g8, .ref g9, .ref g10, .ref g11, .ref g12, .ref g13, .ref g14, .ref g15, .ref g16, .ref g17, .ref g18, .int 0, .ref g19, .int 0, .int 0, .int 0])), (g1, .inl (kG1, 4, .inl (fun _ => 0)))]) [5, 6] rfl
      have hKc := hK.sub (tys' := [(kG1, .boolean)]) [2] rfl
      refine vp_callSi (W.runV (As := [.int (xs (1 : Int32).toNatClampNeg), .long w_41, .int (xs (4 : Int32).toNatClampNeg)]) (rest := [.int r_35]) ⟨hx, hb, hml, hown, hts⟩ (kX5_put l dC dI g0 g1 g2 g3 g4 g5 g6 g7 g8 g9 g10 g11 g12 g13 g14 g15 g16 g17 g18 g19 kG1 (xs (1 : Int32).toNatClampNeg) w_41 (xs (4 : Int32).toNatClampNeg)) (cwV 3 hts gL_law_X5_put rfl rfl rfl (by decide +kernel) ⟨Nat.le_of_ble_eq_true rfl, Nat.le_of_ble_eq_true rfl⟩) ⟨fun a U g mk q => by obtain ⟨q0, qP, qK⟩ := q; exact ⟨q0, qP, va_K.moved (u := U) (U := U.calling g mk a) (Vm.Alike.refl U.vm) qK⟩, va_recv hKc hPc (ci := 4) (q0 := 0) rfl rfl, fun U hU hW => ⟨rfl, by rw [hU]; exact hPc, va_K.moved hW.alike hKc⟩⟩ rfl rfl hl.1 rfl (lv_room (Nat.le_of_ble_eq_true rfl)) dL_law_212 ⟨Nat.le_of_ble_eq_true rfl, Nat.le_of_ble_eq_true rfl⟩) (fun r_43 hwr_43 => ?_)
      refine lv_icmp_eq (tgt := 672) hx hb dL_law_215 (by decide) (fun _ => ?_) (fun c_44 => False.elim (by first | exact c_44 (hwr_35.trans hwr_43.symm) | exact c_44 (zz_same hwr_35 hwr_43)))
      refine lv_iinc (v := 5) (lv' := [(3, .int 5), (2, .ref g0), (1, .ref h0), (0, .ref b)]) hx hb dL_law_672 hl (k := 0) rfl (by decide) (by decide) rfl (fun ls hl => ?_)
      refine lv_goto (tgt := 18) hx hb dL_law_675 (by decide) ?_
      refine lv_iload_n hx hb dL_law_18 rfl (lv_at hl 0 rfl) ?_
      refine lv_aload_n hx hb dL_law_19 rfl (lv_at hl 3 rfl) ?_
      refine va_slen hx hb hX hbl hbA hS dL_law_20 ?_
      refine W.eq (g2 := F0 m 21 ls [.int 5, .int 5]) rfl ?_
      refine lv_iconst (v := 5) hx hb dL_law_21 (by decide) ?_
      refine lv_isub hx hb dL_law_22 ?_
      refine lv_topi (fun x_46 ex_46 => ?_)
      obtain rfl : x_46 = 0 := ex_46.trans (by decide)
      refine lv_icmp_gt (tgt := 678) hx hb dL_law_23 (by decide) (fun _ => ?_) (fun c_47 => False.elim (by revert c_47; decide))
      refine lv_iconst (v := 1) hx hb dL_law_678 (by decide) ?_
      refine va_forget (fun q hq => hS.2.2 q hq) ?_
      refine W.widen (k := 600000) (n := 7302250) (by omega) (by omega) ?_
      exact lw_ret hx hb hr hlocks dL_law_679
    · refine lv_tableIn (tgt := 220) hx hb dL_law_32 (by omega) (by omega) (by rw [hk]; rfl) (by decide) ?_
      refine lv_aload_n hx hb dL_law_220 rfl (lv_at hl 2 rfl) ?_
      refine lv_aload_n hx hb dL_law_221 rfl (lv_at hl 3 rfl) ?_
      refine lv_iload_n hx hb dL_law_222 rfl (lv_at hl 0 rfl) ?_
      refine lv_iconst (v := 1) hx hb dL_law_223 (by decide) ?_
      refine lv_iadd hx hb dL_law_224 ?_
      refine lv_topi (fun x_48 ex_48 => ?_)
      obtain rfl : x_48 = 1 := ex_48.trans (by decide)
      refine va_sld hx hb hX hbl hbA hS (vp_in_iff.mpr (by decide)) dL_law_225 ?_
      refine lv_aload_n hx hb dL_law_226 rfl (lv_at hl 3 rfl) ?_
      refine lv_iload_n hx hb dL_law_227 rfl (lv_at hl 0 rfl) ?_
      refine lv_iconst (v := 2) hx hb dL_law_228 (by decide) ?_
      refine lv_iadd hx hb dL_law_229 ?_
      refine lv_topi (fun x_49 ex_49 => ?_)
      obtain rfl : x_49 = 2 := ex_49.trans (by decide)
      refine va_sld hx hb hX hbl hbA hS (vp_in_iff.mpr (by decide)) dL_law_230 ?_
      refine lv_aload_n hx hb dL_law_231 rfl (lv_at hl 3 rfl) ?_
      refine lv_iload_n hx hb dL_law_232 rfl (lv_at hl 0 rfl) ?_
      refine lv_iconst (v := 3) hx hb dL_law_233 (by decide) ?_
      refine lv_iadd hx hb dL_law_234 ?_
      refine lv_topi (fun x_50 ex_50 => ?_)
      obtain rfl : x_50 = 3 := ex_50.trans (by decide)
      refine va_sld hx hb hX hbl hbA hS (vp_in_iff.mpr (by decide)) dL_law_235 ?_
      have hPc := hP.sub (ws' := [(h0, .inr (3, [.ref h1, .ref h2, .ref h4])), (h1, .inl (kS, 4, .inr (.inr (.inr (.inr (fun _ => none)))))), (h2, .inr (0, [.ref h3, .int 0]))]) [0, 1, 2] rfl
      have hKc := hK.sub (tys' := [(kS, .object "SignForms$Stream")]) [0] rfl
      refine vp_callSi (W.runV (As := [.int (xs (1 : Int32).toNatClampNeg), .int (xs (2 : Int32).toNatClampNeg), .int (xs (3 : Int32).toNatClampNeg)]) (rest := []) ⟨hx, hb, hml, hown, hts⟩ (kX4_pour l dC dI h0 h1 h2 h3 h4 kS (xs (1 : Int32).toNatClampNeg) (xs (2 : Int32).toNatClampNeg) (xs (3 : Int32).toNatClampNeg)) (cwV 3 hts gL_law_X4_pour rfl rfl rfl (by decide +kernel) ⟨Nat.le_of_ble_eq_true rfl, Nat.le_of_ble_eq_true rfl⟩) ⟨fun a U g mk q => by obtain ⟨q0, qP, qK⟩ := q; exact ⟨q0, qP, va_K.moved (u := U) (U := U.calling g mk a) (Vm.Alike.refl U.vm) qK⟩, va_recv hKc hPc (ci := 3) (q0 := 0) rfl rfl, fun U hU hW => ⟨rfl, by rw [hU]; exact hPc, va_K.moved hW.alike hKc⟩⟩ rfl rfl hl.1 rfl (lv_room (Nat.le_of_ble_eq_true rfl)) dL_law_236 ⟨Nat.le_of_ble_eq_true rfl, Nat.le_of_ble_eq_true rfl⟩) (fun r_51 hwr_51 => ?_)
      refine lv_aload_n hx hb dL_law_239 rfl (lv_at hl 1 rfl) ?_
      refine lv_aload_n hx hb dL_law_240 rfl (lv_at hl 3 rfl) ?_
      refine lv_iload_n hx hb dL_law_241 rfl (lv_at hl 0 rfl) ?_
      refine lv_iconst (v := 1) hx hb dL_law_242 (by decide) ?_
      refine lv_iadd hx hb dL_law_243 ?_
      refine lv_topi (fun x_52 ex_52 => ?_)
      obtain rfl : x_52 = 1 := ex_52.trans (by decide)
      refine va_sld hx hb hX hbl hbA hS (vp_in_iff.mpr (by decide)) dL_law_244 ?_
      refine lv_aload_n hx hb dL_law_245 rfl (lv_at hl 3 rfl) ?_
      refine lv_iload_n hx hb dL_law_246 rfl (lv_at hl 0 rfl) ?_
      refine lv_iconst (v := 2) hx hb dL_law_247 (by decide) ?_
      refine lv_iadd hx hb dL_law_248 ?_
      refine lv_topi (fun x_53 ex_53 => ?_)
      obtain rfl : x_53 = 2 := ex_53.trans (by decide)
      refine va_sld hx hb hX hbl hbA hS (vp_in_iff.mpr (by decide)) dL_law_249 ?_
      refine lv_aload_n hx hb dL_law_250 rfl (lv_at hl 3 rfl) ?_
      refine lv_iload_n hx hb dL_law_251 rfl (lv_at hl 0 rfl) ?_
      refine lv_iconst (v := 3) hx hb dL_law_252 (by decide) ?_
      refine lv_iadd hx hb dL_law_253 ?_
      refine lv_topi (fun x_54 ex_54 => ?_)
      obtain rfl : x_54 = 3 := ex_54.trans (by decide)
      refine va_sld hx hb hX hbl hbA hS (vp_in_iff.mpr (by decide)) dL_law_254 ?_
      have hPc := hP.sub (ws' := [(g0, .inr (4, [.ref g1, .ref g2, .ref g3, .ref g4, .ref g5, .ref g6, .ref g7, .ref g8, .ref g9, .ref g10, .ref g11, .ref g12, .ref g13, .ref g14, .ref g15, .ref g16, .ref g17, .ref g18, .int 0, .ref g19, .int 0, .int 0, .int 0])), (g1, .inl (kG1, 4, .inl (fun _ => 0)))]) [5, 6] rfl
      have hKc := hK.sub (tys' := [(kG1, .boolean)]) [2] rfl
      refine vp_callSi (W.runV (As := [.int (xs (1 : Int32).toNatClampNeg), .int (xs (2 : Int32).toNatClampNeg), .int (xs (3 : Int32).toNatClampNeg)]) (rest := [.int r_51]) ⟨hx, hb, hml, hown, hts⟩ (kX5_pour l dC dI g0 g1 g2 g3 g4 g5 g6 g7 g8 g9 g10 g11 g12 g13 g14 g15 g16 g17 g18 g19 kG1 (xs (1 : Int32).toNatClampNeg) (xs (2 : Int32).toNatClampNeg) (xs (3 : Int32).toNatClampNeg)) (cwV 3 hts gL_law_X5_pour rfl rfl rfl (by decide +kernel) ⟨Nat.le_of_ble_eq_true rfl, Nat.le_of_ble_eq_true rfl⟩) ⟨fun a U g mk q => by obtain ⟨q0, qP, qK⟩ := q; exact ⟨q0, qP, va_K.moved (u := U) (U := U.calling g mk a) (Vm.Alike.refl U.vm) qK⟩, va_recv hKc hPc (ci := 4) (q0 := 0) rfl rfl, fun U hU hW => ⟨rfl, by rw [hU]; exact hPc, va_K.moved hW.alike hKc⟩⟩ rfl rfl hl.1 rfl (lv_room (Nat.le_of_ble_eq_true rfl)) dL_law_255 ⟨Nat.le_of_ble_eq_true rfl, Nat.le_of_ble_eq_true rfl⟩) (fun r_55 hwr_55 => ?_)
      refine lv_icmp_eq (tgt := 672) hx hb dL_law_258 (by decide) (fun _ => ?_) (fun c_56 => False.elim (by first | exact c_56 (hwr_51.trans hwr_55.symm) | exact c_56 (zz_same hwr_51 hwr_55)))
      refine lv_iinc (v := 5) (lv' := [(3, .int 5), (2, .ref g0), (1, .ref h0), (0, .ref b)]) hx hb dL_law_672 hl (k := 0) rfl (by decide) (by decide) rfl (fun ls hl => ?_)
      refine lv_goto (tgt := 18) hx hb dL_law_675 (by decide) ?_
      refine lv_iload_n hx hb dL_law_18 rfl (lv_at hl 0 rfl) ?_
      refine lv_aload_n hx hb dL_law_19 rfl (lv_at hl 3 rfl) ?_
      refine va_slen hx hb hX hbl hbA hS dL_law_20 ?_
      refine W.eq (g2 := F0 m 21 ls [.int 5, .int 5]) rfl ?_
      refine lv_iconst (v := 5) hx hb dL_law_21 (by decide) ?_
      refine lv_isub hx hb dL_law_22 ?_
      refine lv_topi (fun x_58 ex_58 => ?_)
      obtain rfl : x_58 = 0 := ex_58.trans (by decide)
      refine lv_icmp_gt (tgt := 678) hx hb dL_law_23 (by decide) (fun _ => ?_) (fun c_59 => False.elim (by revert c_59; decide))
      refine lv_iconst (v := 1) hx hb dL_law_678 (by decide) ?_
      refine va_forget (fun q hq => hS.2.2 q hq) ?_
      refine W.widen (k := 600000) (n := 7302250) (by omega) (by omega) ?_
      exact lw_ret hx hb hr hlocks dL_law_679
    · refine lv_tableIn (tgt := 263) hx hb dL_law_32 (by omega) (by omega) (by rw [hk]; rfl) (by decide) ?_
      refine lv_aload_n hx hb dL_law_263 rfl (lv_at hl 2 rfl) ?_
      refine lv_aload_n hx hb dL_law_264 rfl (lv_at hl 3 rfl) ?_
      refine lv_iload_n hx hb dL_law_265 rfl (lv_at hl 0 rfl) ?_
      refine lv_iconst (v := 1) hx hb dL_law_266 (by decide) ?_
      refine lv_iadd hx hb dL_law_267 ?_
      refine lv_topi (fun x_60 ex_60 => ?_)
      obtain rfl : x_60 = 1 := ex_60.trans (by decide)
      refine va_sld hx hb hX hbl hbA hS (vp_in_iff.mpr (by decide)) dL_law_268 ?_
      have hPc := hP.sub (ws' := [(h0, .inr (3, [.ref h1, .ref h2, .ref h4])), (h1, .inl (kS, 4, .inr (.inr (.inr (.inr (fun _ => none))))))]) [0, 1] rfl
      have hKc := hK.sub (tys' := [(kS, .object "SignForms$Stream")]) [0] rfl
      refine vp_callSi (W.runV (As := [.int (xs (1 : Int32).toNatClampNeg)]) (rest := []) ⟨hx, hb, hml, hown, hts⟩ (kX4_end l dC dI h0 h1 h2 h4 kS (xs (1 : Int32).toNatClampNeg)) (cwV 1 hts gL_law_X4_end rfl rfl rfl (by decide +kernel) ⟨Nat.le_of_ble_eq_true rfl, Nat.le_of_ble_eq_true rfl⟩) ⟨fun a U g mk q => by obtain ⟨q0, qP, qK⟩ := q; exact ⟨q0, qP, va_K.moved (u := U) (U := U.calling g mk a) (Vm.Alike.refl U.vm) qK⟩, va_recv hKc hPc (ci := 3) (q0 := 0) rfl rfl, fun U hU hW => ⟨rfl, by rw [hU]; exact hPc, va_K.moved hW.alike hKc⟩⟩ rfl rfl hl.1 rfl (lv_room (Nat.le_of_ble_eq_true rfl)) dL_law_269 ⟨Nat.le_of_ble_eq_true rfl, Nat.le_of_ble_eq_true rfl⟩) (fun r_61 hwr_61 => ?_)
      refine lv_aload_n hx hb dL_law_272 rfl (lv_at hl 1 rfl) ?_
      refine lv_aload_n hx hb dL_law_273 rfl (lv_at hl 3 rfl) ?_
      refine lv_iload_n hx hb dL_law_274 rfl (lv_at hl 0 rfl) ?_
      refine lv_iconst (v := 1) hx hb dL_law_275 (by decide) ?_
      refine lv_iadd hx hb dL_law_276 ?_
      refine lv_topi (fun x_62 ex_62 => ?_)
      obtain rfl : x_62 = 1 := ex_62.trans (by decide)
      refine va_sld hx hb hX hbl hbA hS (vp_in_iff.mpr (by decide)) dL_law_277 ?_
      have hPc := hP.sub (ws' := [(g0, .inr (4, [.ref g1, .ref g2, .ref g3, .ref g4, .ref g5, .ref g6, .ref g7, .ref g8, .ref g9, .ref g10, .ref g11, .ref g12, .ref g13, .ref g14, .ref g15, .ref g16, .ref g17, .ref g18, .int 0, .ref g19, .int 0, .int 0, .int 0])), (g1, .inl (kG1, 4, .inl (fun _ => 0)))]) [5, 6] rfl
      have hKc := hK.sub (tys' := [(kG1, .boolean)]) [2] rfl
      refine vp_callSi (W.runV (As := [.int (xs (1 : Int32).toNatClampNeg)]) (rest := [.int r_61]) ⟨hx, hb, hml, hown, hts⟩ (kX5_end l dC dI g0 g1 g2 g3 g4 g5 g6 g7 g8 g9 g10 g11 g12 g13 g14 g15 g16 g17 g18 g19 kG1 (xs (1 : Int32).toNatClampNeg)) (cwV 1 hts gL_law_X5_end rfl rfl rfl (by decide +kernel) ⟨Nat.le_of_ble_eq_true rfl, Nat.le_of_ble_eq_true rfl⟩) ⟨fun a U g mk q => by obtain ⟨q0, qP, qK⟩ := q; exact ⟨q0, qP, va_K.moved (u := U) (U := U.calling g mk a) (Vm.Alike.refl U.vm) qK⟩, va_recv hKc hPc (ci := 4) (q0 := 0) rfl rfl, fun U hU hW => ⟨rfl, by rw [hU]; exact hPc, va_K.moved hW.alike hKc⟩⟩ rfl rfl hl.1 rfl (lv_room (Nat.le_of_ble_eq_true rfl)) dL_law_278 ⟨Nat.le_of_ble_eq_true rfl, Nat.le_of_ble_eq_true rfl⟩) (fun r_63 hwr_63 => ?_)
      refine lv_icmp_eq (tgt := 672) hx hb dL_law_281 (by decide) (fun _ => ?_) (fun c_64 => False.elim (by first | exact c_64 (hwr_61.trans hwr_63.symm) | exact c_64 (zz_same hwr_61 hwr_63)))
      refine lv_iinc (v := 5) (lv' := [(3, .int 5), (2, .ref g0), (1, .ref h0), (0, .ref b)]) hx hb dL_law_672 hl (k := 0) rfl (by decide) (by decide) rfl (fun ls hl => ?_)
      refine lv_goto (tgt := 18) hx hb dL_law_675 (by decide) ?_
      refine lv_iload_n hx hb dL_law_18 rfl (lv_at hl 0 rfl) ?_
      refine lv_aload_n hx hb dL_law_19 rfl (lv_at hl 3 rfl) ?_
      refine va_slen hx hb hX hbl hbA hS dL_law_20 ?_
      refine W.eq (g2 := F0 m 21 ls [.int 5, .int 5]) rfl ?_
      refine lv_iconst (v := 5) hx hb dL_law_21 (by decide) ?_
      refine lv_isub hx hb dL_law_22 ?_
      refine lv_topi (fun x_66 ex_66 => ?_)
      obtain rfl : x_66 = 0 := ex_66.trans (by decide)
      refine lv_icmp_gt (tgt := 678) hx hb dL_law_23 (by decide) (fun _ => ?_) (fun c_67 => False.elim (by revert c_67; decide))
      refine lv_iconst (v := 1) hx hb dL_law_678 (by decide) ?_
      refine va_forget (fun q hq => hS.2.2 q hq) ?_
      refine W.widen (k := 600000) (n := 7302250) (by omega) (by omega) ?_
      exact lw_ret hx hb hr hlocks dL_law_679
    · refine lv_tableIn (tgt := 286) hx hb dL_law_32 (by omega) (by omega) (by rw [hk]; rfl) (by decide) ?_
      refine lv_aload_n hx hb dL_law_286 rfl (lv_at hl 2 rfl) ?_
      refine lv_aload_n hx hb dL_law_287 rfl (lv_at hl 3 rfl) ?_
      refine lv_iload_n hx hb dL_law_288 rfl (lv_at hl 0 rfl) ?_
      refine lv_iconst (v := 1) hx hb dL_law_289 (by decide) ?_
      refine lv_iadd hx hb dL_law_290 ?_
      refine lv_topi (fun x_68 ex_68 => ?_)
      obtain rfl : x_68 = 1 := ex_68.trans (by decide)
      refine va_sld hx hb hX hbl hbA hS (vp_in_iff.mpr (by decide)) dL_law_291 ?_
      refine lv_aload_n hx hb dL_law_292 rfl (lv_at hl 3 rfl) ?_
      refine lv_iload_n hx hb dL_law_293 rfl (lv_at hl 0 rfl) ?_
      refine lv_iconst (v := 2) hx hb dL_law_294 (by decide) ?_
      refine lv_iadd hx hb dL_law_295 ?_
      refine lv_topi (fun x_69 ex_69 => ?_)
      obtain rfl : x_69 = 2 := ex_69.trans (by decide)
      refine va_sld hx hb hX hbl hbA hS (vp_in_iff.mpr (by decide)) dL_law_296 ?_
      have hPc := hP.sub (ws' := [(h0, .inr (3, [.ref h1, .ref h2, .ref h4])), (h1, .inl (kS, 4, .inr (.inr (.inr (.inr (fun _ => none))))))]) [0, 1] rfl
      have hKc := hK.sub (tys' := [(kS, .object "SignForms$Stream")]) [0] rfl
      refine vp_callSi (W.runV (As := [.int (xs (1 : Int32).toNatClampNeg), .int (xs (2 : Int32).toNatClampNeg)]) (rest := []) ⟨hx, hb, hml, hown, hts⟩ (kX4_about l dC dI h0 h1 h2 h4 kS (xs (1 : Int32).toNatClampNeg) (xs (2 : Int32).toNatClampNeg)) (cwV 2 hts gL_law_X4_about rfl rfl rfl (by decide +kernel) ⟨Nat.le_of_ble_eq_true rfl, Nat.le_of_ble_eq_true rfl⟩) ⟨fun a U g mk q => by obtain ⟨q0, qP, qK⟩ := q; exact ⟨q0, qP, va_K.moved (u := U) (U := U.calling g mk a) (Vm.Alike.refl U.vm) qK⟩, va_recv hKc hPc (ci := 3) (q0 := 0) rfl rfl, fun U hU hW => ⟨rfl, by rw [hU]; exact hPc, va_K.moved hW.alike hKc⟩⟩ rfl rfl hl.1 rfl (lv_room (Nat.le_of_ble_eq_true rfl)) dL_law_297 ⟨Nat.le_of_ble_eq_true rfl, Nat.le_of_ble_eq_true rfl⟩) (fun r_70 hwr_70 => ?_)
      refine lv_aload_n hx hb dL_law_300 rfl (lv_at hl 1 rfl) ?_
      refine lv_aload_n hx hb dL_law_301 rfl (lv_at hl 3 rfl) ?_
      refine lv_iload_n hx hb dL_law_302 rfl (lv_at hl 0 rfl) ?_
      refine lv_iconst (v := 1) hx hb dL_law_303 (by decide) ?_
      refine lv_iadd hx hb dL_law_304 ?_
      refine lv_topi (fun x_71 ex_71 => ?_)
      obtain rfl : x_71 = 1 := ex_71.trans (by decide)
      refine va_sld hx hb hX hbl hbA hS (vp_in_iff.mpr (by decide)) dL_law_305 ?_
      refine lv_aload_n hx hb dL_law_306 rfl (lv_at hl 3 rfl) ?_
      refine lv_iload_n hx hb dL_law_307 rfl (lv_at hl 0 rfl) ?_
      refine lv_iconst (v := 2) hx hb dL_law_308 (by decide) ?_
      refine lv_iadd hx hb dL_law_309 ?_
      refine lv_topi (fun x_72 ex_72 => ?_)
      obtain rfl : x_72 = 2 := ex_72.trans (by decide)
      refine va_sld hx hb hX hbl hbA hS (vp_in_iff.mpr (by decide)) dL_law_310 ?_
      have hPc := hP.sub (ws' := [(g0, .inr (4, [.ref g1, .ref g2, .ref g3, .ref g4, .ref g5, .ref g6, .ref g7, .ref g8, .ref g9, .ref g10, .ref g11, .ref g12, .ref g13, .ref g14, .ref g15, .ref g16, .ref g17, .ref g18, .int 0, .ref g19, .int 0, .int 0, .int 0])), (g1, .inl (kG1, 4, .inl (fun _ => 0)))]) [5, 6] rfl
      have hKc := hK.sub (tys' := [(kG1, .boolean)]) [2] rfl
      refine vp_callSi (W.runV (As := [.int (xs (1 : Int32).toNatClampNeg), .int (xs (2 : Int32).toNatClampNeg)]) (rest := [.int r_70]) ⟨hx, hb, hml, hown, hts⟩ (kX5_about l dC dI g0 g1 g2 g3 g4 g5 g6 g7 g8 g9 g10 g11 g12 g13 g14 g15 g16 g17 g18 g19 kG1 (xs (1 : Int32).toNatClampNeg) (xs (2 : Int32).toNatClampNeg)) (cwV 2 hts gL_law_X5_about rfl rfl rfl (by decide +kernel) ⟨Nat.le_of_ble_eq_true rfl, Nat.le_of_ble_eq_true rfl⟩) ⟨fun a U g mk q => by obtain ⟨q0, qP, qK⟩ := q; exact ⟨q0, qP, va_K.moved (u := U) (U := U.calling g mk a) (Vm.Alike.refl U.vm) qK⟩, va_recv hKc hPc (ci := 4) (q0 := 0) rfl rfl, fun U hU hW => ⟨rfl, by rw [hU]; exact hPc, va_K.moved hW.alike hKc⟩⟩ rfl rfl hl.1 rfl (lv_room (Nat.le_of_ble_eq_true rfl)) dL_law_311 ⟨Nat.le_of_ble_eq_true rfl, Nat.le_of_ble_eq_true rfl⟩) (fun r_73 hwr_73 => ?_)
      refine lv_icmp_eq (tgt := 672) hx hb dL_law_314 (by decide) (fun _ => ?_) (fun c_74 => False.elim (by first | exact c_74 (hwr_70.trans hwr_73.symm) | exact c_74 (zz_same hwr_70 hwr_73)))
      refine lv_iinc (v := 5) (lv' := [(3, .int 5), (2, .ref g0), (1, .ref h0), (0, .ref b)]) hx hb dL_law_672 hl (k := 0) rfl (by decide) (by decide) rfl (fun ls hl => ?_)
      refine lv_goto (tgt := 18) hx hb dL_law_675 (by decide) ?_
      refine lv_iload_n hx hb dL_law_18 rfl (lv_at hl 0 rfl) ?_
      refine lv_aload_n hx hb dL_law_19 rfl (lv_at hl 3 rfl) ?_
      refine va_slen hx hb hX hbl hbA hS dL_law_20 ?_
      refine W.eq (g2 := F0 m 21 ls [.int 5, .int 5]) rfl ?_
      refine lv_iconst (v := 5) hx hb dL_law_21 (by decide) ?_
      refine lv_isub hx hb dL_law_22 ?_
      refine lv_topi (fun x_76 ex_76 => ?_)
      obtain rfl : x_76 = 0 := ex_76.trans (by decide)
      refine lv_icmp_gt (tgt := 678) hx hb dL_law_23 (by decide) (fun _ => ?_) (fun c_77 => False.elim (by revert c_77; decide))
      refine lv_iconst (v := 1) hx hb dL_law_678 (by decide) ?_
      refine va_forget (fun q hq => hS.2.2 q hq) ?_
      refine W.widen (k := 600000) (n := 7302250) (by omega) (by omega) ?_
      exact lw_ret hx hb hr hlocks dL_law_679
    · refine lv_tableIn (tgt := 319) hx hb dL_law_32 (by omega) (by omega) (by rw [hk]; rfl) (by decide) ?_
      refine lv_aload_n hx hb dL_law_319 rfl (lv_at hl 2 rfl) ?_
      refine lv_aload_n hx hb dL_law_320 rfl (lv_at hl 3 rfl) ?_
      refine lv_iload_n hx hb dL_law_321 rfl (lv_at hl 0 rfl) ?_
      refine lv_iconst (v := 1) hx hb dL_law_322 (by decide) ?_
      refine lv_iadd hx hb dL_law_323 ?_
      refine lv_topi (fun x_78 ex_78 => ?_)
      obtain rfl : x_78 = 1 := ex_78.trans (by decide)
      refine va_sld hx hb hX hbl hbA hS (vp_in_iff.mpr (by decide)) dL_law_324 ?_
      refine lv_aload_n hx hb dL_law_325 rfl (lv_at hl 3 rfl) ?_
      refine lv_iload_n hx hb dL_law_326 rfl (lv_at hl 0 rfl) ?_
      refine lv_iconst (v := 2) hx hb dL_law_327 (by decide) ?_
      refine lv_iadd hx hb dL_law_328 ?_
      refine lv_topi (fun x_79 ex_79 => ?_)
      obtain rfl : x_79 = 2 := ex_79.trans (by decide)
      refine va_sld hx hb hX hbl hbA hS (vp_in_iff.mpr (by decide)) dL_law_329 ?_
      have hPc := hP.sub (ws' := [(h0, .inr (3, [.ref h1, .ref h2, .ref h4])), (h1, .inl (kS, 4, .inr (.inr (.inr (.inr (fun _ => none))))))]) [0, 1] rfl
      have hKc := hK.sub (tys' := [(kS, .object "SignForms$Stream")]) [0] rfl
      refine vp_callSi (W.runV (As := [.int (xs (1 : Int32).toNatClampNeg), .int (xs (2 : Int32).toNatClampNeg)]) (rest := []) ⟨hx, hb, hml, hown, hts⟩ (kX4_sign l dC dI h0 h1 h2 h4 kS (xs (1 : Int32).toNatClampNeg) (xs (2 : Int32).toNatClampNeg)) (cwV 2 hts gL_law_X4_sign rfl rfl rfl (by decide +kernel) ⟨Nat.le_of_ble_eq_true rfl, Nat.le_of_ble_eq_true rfl⟩) ⟨fun a U g mk q => by obtain ⟨q0, qP, qK⟩ := q; exact ⟨q0, qP, va_K.moved (u := U) (U := U.calling g mk a) (Vm.Alike.refl U.vm) qK⟩, va_recv hKc hPc (ci := 3) (q0 := 0) rfl rfl, fun U hU hW => ⟨rfl, by rw [hU]; exact hPc, va_K.moved hW.alike hKc⟩⟩ rfl rfl hl.1 rfl (lv_room (Nat.le_of_ble_eq_true rfl)) dL_law_330 ⟨Nat.le_of_ble_eq_true rfl, Nat.le_of_ble_eq_true rfl⟩) (fun r_80 hwr_80 => ?_)
      refine lv_aload_n hx hb dL_law_333 rfl (lv_at hl 1 rfl) ?_
      refine lv_aload_n hx hb dL_law_334 rfl (lv_at hl 3 rfl) ?_
      refine lv_iload_n hx hb dL_law_335 rfl (lv_at hl 0 rfl) ?_
      refine lv_iconst (v := 1) hx hb dL_law_336 (by decide) ?_
      refine lv_iadd hx hb dL_law_337 ?_
      refine lv_topi (fun x_81 ex_81 => ?_)
      obtain rfl : x_81 = 1 := ex_81.trans (by decide)
      refine va_sld hx hb hX hbl hbA hS (vp_in_iff.mpr (by decide)) dL_law_338 ?_
      refine lv_aload_n hx hb dL_law_339 rfl (lv_at hl 3 rfl) ?_
      refine lv_iload_n hx hb dL_law_340 rfl (lv_at hl 0 rfl) ?_
      refine lv_iconst (v := 2) hx hb dL_law_341 (by decide) ?_
      refine lv_iadd hx hb dL_law_342 ?_
      refine lv_topi (fun x_82 ex_82 => ?_)
      obtain rfl : x_82 = 2 := ex_82.trans (by decide)
      refine va_sld hx hb hX hbl hbA hS (vp_in_iff.mpr (by decide)) dL_law_343 ?_
      have hPc := hP.sub (ws' := [(g0, .inr (4, [.ref g1, .ref g2, .ref g3, .ref g4, .ref g5, .ref g6, .ref g7, .ref g8, .ref g9, .ref g10, .ref g11, .ref g12, .ref g13, .ref g14, .ref g15, .ref g16, .ref g17, .ref g18, .int 0, .ref g19, .int 0, .int 0, .int 0])), (g1, .inl (kG1, 4, .inl (fun _ => 0)))]) [5, 6] rfl
      have hKc := hK.sub (tys' := [(kG1, .boolean)]) [2] rfl
      refine vp_callSi (W.runV (As := [.int (xs (1 : Int32).toNatClampNeg), .int (xs (2 : Int32).toNatClampNeg)]) (rest := [.int r_80]) ⟨hx, hb, hml, hown, hts⟩ (kX5_sign l dC dI g0 g1 g2 g3 g4 g5 g6 g7 g8 g9 g10 g11 g12 g13 g14 g15 g16 g17 g18 g19 kG1 (xs (1 : Int32).toNatClampNeg) (xs (2 : Int32).toNatClampNeg)) (cwV 2 hts gL_law_X5_sign rfl rfl rfl (by decide +kernel) ⟨Nat.le_of_ble_eq_true rfl, Nat.le_of_ble_eq_true rfl⟩) ⟨fun a U g mk q => by obtain ⟨q0, qP, qK⟩ := q; exact ⟨q0, qP, va_K.moved (u := U) (U := U.calling g mk a) (Vm.Alike.refl U.vm) qK⟩, va_recv hKc hPc (ci := 4) (q0 := 0) rfl rfl, fun U hU hW => ⟨rfl, by rw [hU]; exact hPc, va_K.moved hW.alike hKc⟩⟩ rfl rfl hl.1 rfl (lv_room (Nat.le_of_ble_eq_true rfl)) dL_law_344 ⟨Nat.le_of_ble_eq_true rfl, Nat.le_of_ble_eq_true rfl⟩) (fun r_83 hwr_83 => ?_)
      refine lv_icmp_eq (tgt := 672) hx hb dL_law_347 (by decide) (fun _ => ?_) (fun c_84 => False.elim (by first | exact c_84 (hwr_80.trans hwr_83.symm) | exact c_84 (zz_same hwr_80 hwr_83)))
      refine lv_iinc (v := 5) (lv' := [(3, .int 5), (2, .ref g0), (1, .ref h0), (0, .ref b)]) hx hb dL_law_672 hl (k := 0) rfl (by decide) (by decide) rfl (fun ls hl => ?_)
      refine lv_goto (tgt := 18) hx hb dL_law_675 (by decide) ?_
      refine lv_iload_n hx hb dL_law_18 rfl (lv_at hl 0 rfl) ?_
      refine lv_aload_n hx hb dL_law_19 rfl (lv_at hl 3 rfl) ?_
      refine va_slen hx hb hX hbl hbA hS dL_law_20 ?_
      refine W.eq (g2 := F0 m 21 ls [.int 5, .int 5]) rfl ?_
      refine lv_iconst (v := 5) hx hb dL_law_21 (by decide) ?_
      refine lv_isub hx hb dL_law_22 ?_
      refine lv_topi (fun x_86 ex_86 => ?_)
      obtain rfl : x_86 = 0 := ex_86.trans (by decide)
      refine lv_icmp_gt (tgt := 678) hx hb dL_law_23 (by decide) (fun _ => ?_) (fun c_87 => False.elim (by revert c_87; decide))
      refine lv_iconst (v := 1) hx hb dL_law_678 (by decide) ?_
      refine va_forget (fun q hq => hS.2.2 q hq) ?_
      refine W.widen (k := 600000) (n := 7302250) (by omega) (by omega) ?_
      exact lw_ret hx hb hr hlocks dL_law_679
    · refine lv_tableIn (tgt := 352) hx hb dL_law_32 (by omega) (by omega) (by rw [hk]; rfl) (by decide) ?_
      refine lv_aload_n hx hb dL_law_352 rfl (lv_at hl 2 rfl) ?_
      refine lv_aload_n hx hb dL_law_353 rfl (lv_at hl 3 rfl) ?_
      refine lv_iload_n hx hb dL_law_354 rfl (lv_at hl 0 rfl) ?_
      refine lv_iconst (v := 1) hx hb dL_law_355 (by decide) ?_
      refine lv_iadd hx hb dL_law_356 ?_
      refine lv_topi (fun x_88 ex_88 => ?_)
      obtain rfl : x_88 = 1 := ex_88.trans (by decide)
      refine va_sld hx hb hX hbl hbA hS (vp_in_iff.mpr (by decide)) dL_law_357 ?_
      refine lv_aload_n hx hb dL_law_358 rfl (lv_at hl 3 rfl) ?_
      refine lv_iload_n hx hb dL_law_359 rfl (lv_at hl 0 rfl) ?_
      refine lv_iconst (v := 2) hx hb dL_law_360 (by decide) ?_
      refine lv_iadd hx hb dL_law_361 ?_
      refine lv_topi (fun x_89 ex_89 => ?_)
      obtain rfl : x_89 = 2 := ex_89.trans (by decide)
      refine va_sld hx hb hX hbl hbA hS (vp_in_iff.mpr (by decide)) dL_law_362 ?_
      refine lv_aload_n hx hb dL_law_363 rfl (lv_at hl 3 rfl) ?_
      refine lv_iload_n hx hb dL_law_364 rfl (lv_at hl 0 rfl) ?_
      refine lv_iconst (v := 3) hx hb dL_law_365 (by decide) ?_
      refine lv_iadd hx hb dL_law_366 ?_
      refine lv_topi (fun x_90 ex_90 => ?_)
      obtain rfl : x_90 = 3 := ex_90.trans (by decide)
      refine va_sld hx hb hX hbl hbA hS (vp_in_iff.mpr (by decide)) dL_law_367 ?_
      have hPc := hP.sub (ws' := [(h0, .inr (3, [.ref h1, .ref h2, .ref h4])), (h1, .inl (kS, 4, .inr (.inr (.inr (.inr (fun _ => none))))))]) [0, 1] rfl
      have hKc := hK.sub (tys' := [(kS, .object "SignForms$Stream")]) [0] rfl
      refine vp_callSi (W.runV (As := [.int (xs (1 : Int32).toNatClampNeg), .int (xs (2 : Int32).toNatClampNeg), .int (xs (3 : Int32).toNatClampNeg)]) (rest := []) ⟨hx, hb, hml, hown, hts⟩ (kX4_placed l dC dI h0 h1 h2 h4 kS (xs (1 : Int32).toNatClampNeg) (xs (2 : Int32).toNatClampNeg) (xs (3 : Int32).toNatClampNeg)) (cwV 3 hts gL_law_X4_placed rfl rfl rfl (by decide +kernel) ⟨Nat.le_of_ble_eq_true rfl, Nat.le_of_ble_eq_true rfl⟩) ⟨fun a U g mk q => by obtain ⟨q0, qP, qK⟩ := q; exact ⟨q0, qP, va_K.moved (u := U) (U := U.calling g mk a) (Vm.Alike.refl U.vm) qK⟩, va_recv hKc hPc (ci := 3) (q0 := 0) rfl rfl, fun U hU hW => ⟨rfl, by rw [hU]; exact hPc, va_K.moved hW.alike hKc⟩⟩ rfl rfl hl.1 rfl (lv_room (Nat.le_of_ble_eq_true rfl)) dL_law_368 ⟨Nat.le_of_ble_eq_true rfl, Nat.le_of_ble_eq_true rfl⟩) (fun r_91 hwr_91 => ?_)
      refine lv_aload_n hx hb dL_law_371 rfl (lv_at hl 1 rfl) ?_
      refine lv_aload_n hx hb dL_law_372 rfl (lv_at hl 3 rfl) ?_
      refine lv_iload_n hx hb dL_law_373 rfl (lv_at hl 0 rfl) ?_
      refine lv_iconst (v := 1) hx hb dL_law_374 (by decide) ?_
      refine lv_iadd hx hb dL_law_375 ?_
      refine lv_topi (fun x_92 ex_92 => ?_)
      obtain rfl : x_92 = 1 := ex_92.trans (by decide)
      refine va_sld hx hb hX hbl hbA hS (vp_in_iff.mpr (by decide)) dL_law_376 ?_
      refine lv_aload_n hx hb dL_law_377 rfl (lv_at hl 3 rfl) ?_
      refine lv_iload_n hx hb dL_law_378 rfl (lv_at hl 0 rfl) ?_
      refine lv_iconst (v := 2) hx hb dL_law_379 (by decide) ?_
      refine lv_iadd hx hb dL_law_380 ?_
      refine lv_topi (fun x_93 ex_93 => ?_)
      obtain rfl : x_93 = 2 := ex_93.trans (by decide)
      refine va_sld hx hb hX hbl hbA hS (vp_in_iff.mpr (by decide)) dL_law_381 ?_
      refine lv_aload_n hx hb dL_law_382 rfl (lv_at hl 3 rfl) ?_
      refine lv_iload_n hx hb dL_law_383 rfl (lv_at hl 0 rfl) ?_
      refine lv_iconst (v := 3) hx hb dL_law_384 (by decide) ?_
      refine lv_iadd hx hb dL_law_385 ?_
      refine lv_topi (fun x_94 ex_94 => ?_)
      obtain rfl : x_94 = 3 := ex_94.trans (by decide)
      refine va_sld hx hb hX hbl hbA hS (vp_in_iff.mpr (by decide)) dL_law_386 ?_
      have hPc := hP.sub (ws' := [(g0, .inr (4, [.ref g1, .ref g2, .ref g3, .ref g4, .ref g5, .ref g6, .ref g7, .ref g8, .ref g9, .ref g10, .ref g11, .ref g12, .ref g13, .ref g14, .ref g15, .ref g16, .ref g17, .ref g18, .int 0, .ref g19, .int 0, .int 0, .int 0])), (g1, .inl (kG1, 4, .inl (fun _ => 0)))]) [5, 6] rfl
      have hKc := hK.sub (tys' := [(kG1, .boolean)]) [2] rfl
      refine vp_callSi (W.runV (As := [.int (xs (1 : Int32).toNatClampNeg), .int (xs (2 : Int32).toNatClampNeg), .int (xs (3 : Int32).toNatClampNeg)]) (rest := [.int r_91]) ⟨hx, hb, hml, hown, hts⟩ (kX5_placed l dC dI g0 g1 g2 g3 g4 g5 g6 g7 g8 g9 g10 g11 g12 g13 g14 g15 g16 g17 g18 g19 kG1 (xs (1 : Int32).toNatClampNeg) (xs (2 : Int32).toNatClampNeg) (xs (3 : Int32).toNatClampNeg)) (cwV 3 hts gL_law_X5_placed rfl rfl rfl (by decide +kernel) ⟨Nat.le_of_ble_eq_true rfl, Nat.le_of_ble_eq_true rfl⟩) ⟨fun a U g mk q => by obtain ⟨q0, qP, qK⟩ := q; exact ⟨q0, qP, va_K.moved (u := U) (U := U.calling g mk a) (Vm.Alike.refl U.vm) qK⟩, va_recv hKc hPc (ci := 4) (q0 := 0) rfl rfl, fun U hU hW => ⟨rfl, by rw [hU]; exact hPc, va_K.moved hW.alike hKc⟩⟩ rfl rfl hl.1 rfl (lv_room (Nat.le_of_ble_eq_true rfl)) dL_law_387 ⟨Nat.le_of_ble_eq_true rfl, Nat.le_of_ble_eq_true rfl⟩) (fun r_95 hwr_95 => ?_)
      refine lv_icmp_eq (tgt := 672) hx hb dL_law_390 (by decide) (fun _ => ?_) (fun c_96 => False.elim (by first | exact c_96 (hwr_91.trans hwr_95.symm) | exact c_96 (zz_same hwr_91 hwr_95)))
      refine lv_iinc (v := 5) (lv' := [(3, .int 5), (2, .ref g0), (1, .ref h0), (0, .ref b)]) hx hb dL_law_672 hl (k := 0) rfl (by decide) (by decide) rfl (fun ls hl => ?_)
      refine lv_goto (tgt := 18) hx hb dL_law_675 (by decide) ?_
      refine lv_iload_n hx hb dL_law_18 rfl (lv_at hl 0 rfl) ?_
      refine lv_aload_n hx hb dL_law_19 rfl (lv_at hl 3 rfl) ?_
      refine va_slen hx hb hX hbl hbA hS dL_law_20 ?_
      refine W.eq (g2 := F0 m 21 ls [.int 5, .int 5]) rfl ?_
      refine lv_iconst (v := 5) hx hb dL_law_21 (by decide) ?_
      refine lv_isub hx hb dL_law_22 ?_
      refine lv_topi (fun x_98 ex_98 => ?_)
      obtain rfl : x_98 = 0 := ex_98.trans (by decide)
      refine lv_icmp_gt (tgt := 678) hx hb dL_law_23 (by decide) (fun _ => ?_) (fun c_99 => False.elim (by revert c_99; decide))
      refine lv_iconst (v := 1) hx hb dL_law_678 (by decide) ?_
      refine va_forget (fun q hq => hS.2.2 q hq) ?_
      refine W.widen (k := 600000) (n := 7302250) (by omega) (by omega) ?_
      exact lw_ret hx hb hr hlocks dL_law_679
    · refine lv_tableIn (tgt := 395) hx hb dL_law_32 (by omega) (by omega) (by rw [hk]; rfl) (by decide) ?_
      refine lv_aload_n hx hb dL_law_395 rfl (lv_at hl 2 rfl) ?_
      refine lv_aload_n hx hb dL_law_396 rfl (lv_at hl 3 rfl) ?_
      refine lv_iload_n hx hb dL_law_397 rfl (lv_at hl 0 rfl) ?_
      refine lv_iconst (v := 1) hx hb dL_law_398 (by decide) ?_
      refine lv_iadd hx hb dL_law_399 ?_
      refine lv_topi (fun x_100 ex_100 => ?_)
      obtain rfl : x_100 = 1 := ex_100.trans (by decide)
      refine va_sld hx hb hX hbl hbA hS (vp_in_iff.mpr (by decide)) dL_law_400 ?_
      refine lv_aload_n hx hb dL_law_401 rfl (lv_at hl 3 rfl) ?_
      refine lv_iload_n hx hb dL_law_402 rfl (lv_at hl 0 rfl) ?_
      refine lv_iconst (v := 2) hx hb dL_law_403 (by decide) ?_
      refine lv_iadd hx hb dL_law_404 ?_
      refine lv_topi (fun x_101 ex_101 => ?_)
      obtain rfl : x_101 = 2 := ex_101.trans (by decide)
      refine va_sld hx hb hX hbl hbA hS (vp_in_iff.mpr (by decide)) dL_law_405 ?_
      have hPc := hP.sub (ws' := [(h0, .inr (3, [.ref h1, .ref h2, .ref h4])), (h1, .inl (kS, 4, .inr (.inr (.inr (.inr (fun _ => none))))))]) [0, 1] rfl
      have hKc := hK.sub (tys' := [(kS, .object "SignForms$Stream")]) [0] rfl
      refine vp_callSi (W.runV (As := [.int (xs (1 : Int32).toNatClampNeg), .int (xs (2 : Int32).toNatClampNeg)]) (rest := []) ⟨hx, hb, hml, hown, hts⟩ (kX4_at l dC dI h0 h1 h2 h4 kS (xs (1 : Int32).toNatClampNeg) (xs (2 : Int32).toNatClampNeg)) (cwV 2 hts gL_law_X4_at rfl rfl rfl (by decide +kernel) ⟨Nat.le_of_ble_eq_true rfl, Nat.le_of_ble_eq_true rfl⟩) ⟨fun a U g mk q => by obtain ⟨q0, qP, qK⟩ := q; exact ⟨q0, qP, va_K.moved (u := U) (U := U.calling g mk a) (Vm.Alike.refl U.vm) qK⟩, va_recv hKc hPc (ci := 3) (q0 := 0) rfl rfl, fun U hU hW => ⟨rfl, by rw [hU]; exact hPc, va_K.moved hW.alike hKc⟩⟩ rfl rfl hl.1 rfl (lv_room (Nat.le_of_ble_eq_true rfl)) dL_law_406 ⟨Nat.le_of_ble_eq_true rfl, Nat.le_of_ble_eq_true rfl⟩) (fun r_102 hwr_102 => ?_)
      refine lv_aload_n hx hb dL_law_409 rfl (lv_at hl 1 rfl) ?_
      refine lv_aload_n hx hb dL_law_410 rfl (lv_at hl 3 rfl) ?_
      refine lv_iload_n hx hb dL_law_411 rfl (lv_at hl 0 rfl) ?_
      refine lv_iconst (v := 1) hx hb dL_law_412 (by decide) ?_
      refine lv_iadd hx hb dL_law_413 ?_
      refine lv_topi (fun x_103 ex_103 => ?_)
      obtain rfl : x_103 = 1 := ex_103.trans (by decide)
      refine va_sld hx hb hX hbl hbA hS (vp_in_iff.mpr (by decide)) dL_law_414 ?_
      refine lv_aload_n hx hb dL_law_415 rfl (lv_at hl 3 rfl) ?_
      refine lv_iload_n hx hb dL_law_416 rfl (lv_at hl 0 rfl) ?_
      refine lv_iconst (v := 2) hx hb dL_law_417 (by decide) ?_
      refine lv_iadd hx hb dL_law_418 ?_
      refine lv_topi (fun x_104 ex_104 => ?_)
      obtain rfl : x_104 = 2 := ex_104.trans (by decide)
      refine va_sld hx hb hX hbl hbA hS (vp_in_iff.mpr (by decide)) dL_law_419 ?_
      have hPc := hP.sub (ws' := [(g0, .inr (4, [.ref g1, .ref g2, .ref g3, .ref g4, .ref g5, .ref g6, .ref g7, .ref g8, .ref g9, .ref g10, .ref g11, .ref g12, .ref g13, .ref g14, .ref g15, .ref g16, .ref g17, .ref g18, .int 0, .ref g19, .int 0, .int 0, .int 0])), (g1, .inl (kG1, 4, .inl (fun _ => 0)))]) [5, 6] rfl
      have hKc := hK.sub (tys' := [(kG1, .boolean)]) [2] rfl
      refine vp_callSi (W.runV (As := [.int (xs (1 : Int32).toNatClampNeg), .int (xs (2 : Int32).toNatClampNeg)]) (rest := [.int r_102]) ⟨hx, hb, hml, hown, hts⟩ (kX5_at l dC dI g0 g1 g2 g3 g4 g5 g6 g7 g8 g9 g10 g11 g12 g13 g14 g15 g16 g17 g18 g19 kG1 (xs (1 : Int32).toNatClampNeg) (xs (2 : Int32).toNatClampNeg)) (cwV 2 hts gL_law_X5_at rfl rfl rfl (by decide +kernel) ⟨Nat.le_of_ble_eq_true rfl, Nat.le_of_ble_eq_true rfl⟩) ⟨fun a U g mk q => by obtain ⟨q0, qP, qK⟩ := q; exact ⟨q0, qP, va_K.moved (u := U) (U := U.calling g mk a) (Vm.Alike.refl U.vm) qK⟩, va_recv hKc hPc (ci := 4) (q0 := 0) rfl rfl, fun U hU hW => ⟨rfl, by rw [hU]; exact hPc, va_K.moved hW.alike hKc⟩⟩ rfl rfl hl.1 rfl (lv_room (Nat.le_of_ble_eq_true rfl)) dL_law_420 ⟨Nat.le_of_ble_eq_true rfl, Nat.le_of_ble_eq_true rfl⟩) (fun r_105 hwr_105 => ?_)
      refine lv_icmp_eq (tgt := 672) hx hb dL_law_423 (by decide) (fun _ => ?_) (fun c_106 => False.elim (by first | exact c_106 (hwr_102.trans hwr_105.symm) | exact c_106 (zz_same hwr_102 hwr_105)))
      refine lv_iinc (v := 5) (lv' := [(3, .int 5), (2, .ref g0), (1, .ref h0), (0, .ref b)]) hx hb dL_law_672 hl (k := 0) rfl (by decide) (by decide) rfl (fun ls hl => ?_)
      refine lv_goto (tgt := 18) hx hb dL_law_675 (by decide) ?_
      refine lv_iload_n hx hb dL_law_18 rfl (lv_at hl 0 rfl) ?_
      refine lv_aload_n hx hb dL_law_19 rfl (lv_at hl 3 rfl) ?_
      refine va_slen hx hb hX hbl hbA hS dL_law_20 ?_
      refine W.eq (g2 := F0 m 21 ls [.int 5, .int 5]) rfl ?_
      refine lv_iconst (v := 5) hx hb dL_law_21 (by decide) ?_
      refine lv_isub hx hb dL_law_22 ?_
      refine lv_topi (fun x_108 ex_108 => ?_)
      obtain rfl : x_108 = 0 := ex_108.trans (by decide)
      refine lv_icmp_gt (tgt := 678) hx hb dL_law_23 (by decide) (fun _ => ?_) (fun c_109 => False.elim (by revert c_109; decide))
      refine lv_iconst (v := 1) hx hb dL_law_678 (by decide) ?_
      refine va_forget (fun q hq => hS.2.2 q hq) ?_
      refine W.widen (k := 600000) (n := 7302250) (by omega) (by omega) ?_
      exact lw_ret hx hb hr hlocks dL_law_679
    · refine lv_tableIn (tgt := 428) hx hb dL_law_32 (by omega) (by omega) (by rw [hk]; rfl) (by decide) ?_
      refine lv_aload_n hx hb dL_law_428 rfl (lv_at hl 2 rfl) ?_
      refine lv_aload_n hx hb dL_law_429 rfl (lv_at hl 3 rfl) ?_
      refine lv_iload_n hx hb dL_law_430 rfl (lv_at hl 0 rfl) ?_
      refine lv_iconst (v := 1) hx hb dL_law_431 (by decide) ?_
      refine lv_iadd hx hb dL_law_432 ?_
      refine lv_topi (fun x_110 ex_110 => ?_)
      obtain rfl : x_110 = 1 := ex_110.trans (by decide)
      refine va_sld hx hb hX hbl hbA hS (vp_in_iff.mpr (by decide)) dL_law_433 ?_
      refine lv_aload_n hx hb dL_law_434 rfl (lv_at hl 3 rfl) ?_
      refine lv_iload_n hx hb dL_law_435 rfl (lv_at hl 0 rfl) ?_
      refine lv_iconst (v := 2) hx hb dL_law_436 (by decide) ?_
      refine lv_iadd hx hb dL_law_437 ?_
      refine lv_topi (fun x_111 ex_111 => ?_)
      obtain rfl : x_111 = 2 := ex_111.trans (by decide)
      refine va_sld hx hb hX hbl hbA hS (vp_in_iff.mpr (by decide)) dL_law_438 ?_
      refine lv_aload_n hx hb dL_law_439 rfl (lv_at hl 3 rfl) ?_
      refine lv_iload_n hx hb dL_law_440 rfl (lv_at hl 0 rfl) ?_
      refine lv_iconst (v := 3) hx hb dL_law_441 (by decide) ?_
      refine lv_iadd hx hb dL_law_442 ?_
      refine lv_topi (fun x_112 ex_112 => ?_)
      obtain rfl : x_112 = 3 := ex_112.trans (by decide)
      refine va_sld hx hb hX hbl hbA hS (vp_in_iff.mpr (by decide)) dL_law_443 ?_
      refine lv_if_eq (tgt := 451) hx hb dL_law_444 (by decide) (fun c_113 => ?_) (fun c_113 => ?_)
      · have zc_113 : ((xs (3 : Int32).toNatClampNeg)).toInt = (0 : Int) := zz_eq rfl (by decide) c_113
        refine lv_iconst (v := 0) hx hb dL_law_451 (by decide) ?_
        have hPc := hP.sub (ws' := [(h0, .inr (3, [.ref h1, .ref h2, .ref h4])), (h1, .inl (kS, 4, .inr (.inr (.inr (.inr (fun _ => none))))))]) [0, 1] rfl
        have hKc := hK.sub (tys' := [(kS, .object "SignForms$Stream")]) [0] rfl
        refine vp_callSi (W.runV (As := [.int (xs (1 : Int32).toNatClampNeg), .int (xs (2 : Int32).toNatClampNeg), .int 0]) (rest := []) ⟨hx, hb, hml, hown, hts⟩ (kX4_write l dC dI h0 h1 h2 h4 kS (xs (1 : Int32).toNatClampNeg) (xs (2 : Int32).toNatClampNeg) 0) (cwV 3 hts gL_law_X4_write rfl rfl rfl (by decide +kernel) ⟨Nat.le_of_ble_eq_true rfl, Nat.le_of_ble_eq_true rfl⟩) ⟨fun a U g mk q => by obtain ⟨q0, qP, qK⟩ := q; exact ⟨q0, qP, va_K.moved (u := U) (U := U.calling g mk a) (Vm.Alike.refl U.vm) qK⟩, va_recv hKc hPc (ci := 3) (q0 := 0) rfl rfl, fun U hU hW => ⟨rfl, by rw [hU]; exact hPc, va_K.moved hW.alike hKc⟩⟩ rfl rfl hl.1 rfl (lv_room (Nat.le_of_ble_eq_true rfl)) dL_law_452 ⟨Nat.le_of_ble_eq_true rfl, Nat.le_of_ble_eq_true rfl⟩) (fun r_114 hwr_114 => ?_)
        refine lv_aload_n hx hb dL_law_455 rfl (lv_at hl 1 rfl) ?_
        refine lv_aload_n hx hb dL_law_456 rfl (lv_at hl 3 rfl) ?_
        refine lv_iload_n hx hb dL_law_457 rfl (lv_at hl 0 rfl) ?_
        refine lv_iconst (v := 1) hx hb dL_law_458 (by decide) ?_
        refine lv_iadd hx hb dL_law_459 ?_
        refine lv_topi (fun x_115 ex_115 => ?_)
        obtain rfl : x_115 = 1 := ex_115.trans (by decide)
        refine va_sld hx hb hX hbl hbA hS (vp_in_iff.mpr (by decide)) dL_law_460 ?_
        refine lv_aload_n hx hb dL_law_461 rfl (lv_at hl 3 rfl) ?_
        refine lv_iload_n hx hb dL_law_462 rfl (lv_at hl 0 rfl) ?_
        refine lv_iconst (v := 2) hx hb dL_law_463 (by decide) ?_
        refine lv_iadd hx hb dL_law_464 ?_
        refine lv_topi (fun x_116 ex_116 => ?_)
        obtain rfl : x_116 = 2 := ex_116.trans (by decide)
        refine va_sld hx hb hX hbl hbA hS (vp_in_iff.mpr (by decide)) dL_law_465 ?_
        refine lv_aload_n hx hb dL_law_466 rfl (lv_at hl 3 rfl) ?_
        refine lv_iload_n hx hb dL_law_467 rfl (lv_at hl 0 rfl) ?_
        refine lv_iconst (v := 3) hx hb dL_law_468 (by decide) ?_
        refine lv_iadd hx hb dL_law_469 ?_
        refine lv_topi (fun x_117 ex_117 => ?_)
        obtain rfl : x_117 = 3 := ex_117.trans (by decide)
        refine va_sld hx hb hX hbl hbA hS (vp_in_iff.mpr (by decide)) dL_law_470 ?_
        refine lv_if_eq (tgt := 478) hx hb dL_law_471 (by decide) (fun c_118 => ?_) (fun c_118 => ?_)
        · have zc_118 : ((xs (3 : Int32).toNatClampNeg)).toInt = (0 : Int) := zz_eq rfl (by decide) c_118
          refine lv_iconst (v := 0) hx hb dL_law_478 (by decide) ?_
          have hPc := hP.sub (ws' := [(g0, .inr (4, [.ref g1, .ref g2, .ref g3, .ref g4, .ref g5, .ref g6, .ref g7, .ref g8, .ref g9, .ref g10, .ref g11, .ref g12, .ref g13, .ref g14, .ref g15, .ref g16, .ref g17, .ref g18, .int 0, .ref g19, .int 0, .int 0, .int 0])), (g1, .inl (kG1, 4, .inl (fun _ => 0)))]) [5, 6] rfl
          have hKc := hK.sub (tys' := [(kG1, .boolean)]) [2] rfl
          refine vp_callSi (W.runV (As := [.int (xs (1 : Int32).toNatClampNeg), .int (xs (2 : Int32).toNatClampNeg), .int 0]) (rest := [.int r_114]) ⟨hx, hb, hml, hown, hts⟩ (kX5_write l dC dI g0 g1 g2 g3 g4 g5 g6 g7 g8 g9 g10 g11 g12 g13 g14 g15 g16 g17 g18 g19 kG1 (xs (1 : Int32).toNatClampNeg) (xs (2 : Int32).toNatClampNeg) 0) (cwV 3 hts gL_law_X5_write rfl rfl rfl (by decide +kernel) ⟨Nat.le_of_ble_eq_true rfl, Nat.le_of_ble_eq_true rfl⟩) ⟨fun a U g mk q => by obtain ⟨q0, qP, qK⟩ := q; exact ⟨q0, qP, va_K.moved (u := U) (U := U.calling g mk a) (Vm.Alike.refl U.vm) qK⟩, va_recv hKc hPc (ci := 4) (q0 := 0) rfl rfl, fun U hU hW => ⟨rfl, by rw [hU]; exact hPc, va_K.moved hW.alike hKc⟩⟩ rfl rfl hl.1 rfl (lv_room (Nat.le_of_ble_eq_true rfl)) dL_law_479 ⟨Nat.le_of_ble_eq_true rfl, Nat.le_of_ble_eq_true rfl⟩) (fun r_119 hwr_119 => ?_)
          refine lv_icmp_eq (tgt := 672) hx hb dL_law_482 (by decide) (fun _ => ?_) (fun c_120 => False.elim (by first | exact c_120 (hwr_114.trans hwr_119.symm) | exact c_120 (zz_same hwr_114 hwr_119)))
          refine lv_iinc (v := 5) (lv' := [(3, .int 5), (2, .ref g0), (1, .ref h0), (0, .ref b)]) hx hb dL_law_672 hl (k := 0) rfl (by decide) (by decide) rfl (fun ls hl => ?_)
          refine lv_goto (tgt := 18) hx hb dL_law_675 (by decide) ?_
          refine lv_iload_n hx hb dL_law_18 rfl (lv_at hl 0 rfl) ?_
          refine lv_aload_n hx hb dL_law_19 rfl (lv_at hl 3 rfl) ?_
          refine va_slen hx hb hX hbl hbA hS dL_law_20 ?_
          refine W.eq (g2 := F0 m 21 ls [.int 5, .int 5]) rfl ?_
          refine lv_iconst (v := 5) hx hb dL_law_21 (by decide) ?_
          refine lv_isub hx hb dL_law_22 ?_
          refine lv_topi (fun x_122 ex_122 => ?_)
          obtain rfl : x_122 = 0 := ex_122.trans (by decide)
          refine lv_icmp_gt (tgt := 678) hx hb dL_law_23 (by decide) (fun _ => ?_) (fun c_123 => False.elim (by revert c_123; decide))
          refine lv_iconst (v := 1) hx hb dL_law_678 (by decide) ?_
          refine va_forget (fun q hq => hS.2.2 q hq) ?_
          refine W.widen (k := 600000) (n := 7302250) (by omega) (by omega) ?_
          exact lw_ret hx hb hr hlocks dL_law_679
        · have zc_118 : ((xs (3 : Int32).toNatClampNeg)).toInt ≠ (0 : Int) := zz_neq rfl (by decide) c_118
          refine lv_iconst (v := 1) hx hb dL_law_474 (by decide) ?_
          refine lv_goto (tgt := 479) hx hb dL_law_475 (by decide) ?_
          have hPc := hP.sub (ws' := [(g0, .inr (4, [.ref g1, .ref g2, .ref g3, .ref g4, .ref g5, .ref g6, .ref g7, .ref g8, .ref g9, .ref g10, .ref g11, .ref g12, .ref g13, .ref g14, .ref g15, .ref g16, .ref g17, .ref g18, .int 0, .ref g19, .int 0, .int 0, .int 0])), (g1, .inl (kG1, 4, .inl (fun _ => 0)))]) [5, 6] rfl
          have hKc := hK.sub (tys' := [(kG1, .boolean)]) [2] rfl
          refine vp_callSi (W.runV (As := [.int (xs (1 : Int32).toNatClampNeg), .int (xs (2 : Int32).toNatClampNeg), .int 1]) (rest := [.int r_114]) ⟨hx, hb, hml, hown, hts⟩ (kX5_write l dC dI g0 g1 g2 g3 g4 g5 g6 g7 g8 g9 g10 g11 g12 g13 g14 g15 g16 g17 g18 g19 kG1 (xs (1 : Int32).toNatClampNeg) (xs (2 : Int32).toNatClampNeg) 1) (cwV 3 hts gL_law_X5_write rfl rfl rfl (by decide +kernel) ⟨Nat.le_of_ble_eq_true rfl, Nat.le_of_ble_eq_true rfl⟩) ⟨fun a U g mk q => by obtain ⟨q0, qP, qK⟩ := q; exact ⟨q0, qP, va_K.moved (u := U) (U := U.calling g mk a) (Vm.Alike.refl U.vm) qK⟩, va_recv hKc hPc (ci := 4) (q0 := 0) rfl rfl, fun U hU hW => ⟨rfl, by rw [hU]; exact hPc, va_K.moved hW.alike hKc⟩⟩ rfl rfl hl.1 rfl (lv_room (Nat.le_of_ble_eq_true rfl)) dL_law_479 ⟨Nat.le_of_ble_eq_true rfl, Nat.le_of_ble_eq_true rfl⟩) (fun r_124 hwr_124 => ?_)
          refine lv_icmp_eq (tgt := 672) hx hb dL_law_482 (by decide) (fun _ => ?_) (fun c_125 => False.elim (by first | exact c_125 (hwr_114.trans hwr_124.symm) | exact c_125 (zz_same hwr_114 hwr_124)))
          refine lv_iinc (v := 5) (lv' := [(3, .int 5), (2, .ref g0), (1, .ref h0), (0, .ref b)]) hx hb dL_law_672 hl (k := 0) rfl (by decide) (by decide) rfl (fun ls hl => ?_)
          refine lv_goto (tgt := 18) hx hb dL_law_675 (by decide) ?_
          refine lv_iload_n hx hb dL_law_18 rfl (lv_at hl 0 rfl) ?_
          refine lv_aload_n hx hb dL_law_19 rfl (lv_at hl 3 rfl) ?_
          refine va_slen hx hb hX hbl hbA hS dL_law_20 ?_
          refine W.eq (g2 := F0 m 21 ls [.int 5, .int 5]) rfl ?_
          refine lv_iconst (v := 5) hx hb dL_law_21 (by decide) ?_
          refine lv_isub hx hb dL_law_22 ?_
          refine lv_topi (fun x_127 ex_127 => ?_)
          obtain rfl : x_127 = 0 := ex_127.trans (by decide)
          refine lv_icmp_gt (tgt := 678) hx hb dL_law_23 (by decide) (fun _ => ?_) (fun c_128 => False.elim (by revert c_128; decide))
          refine lv_iconst (v := 1) hx hb dL_law_678 (by decide) ?_
          refine va_forget (fun q hq => hS.2.2 q hq) ?_
          refine W.widen (k := 600000) (n := 7302250) (by omega) (by omega) ?_
          exact lw_ret hx hb hr hlocks dL_law_679
      · have zc_113 : ((xs (3 : Int32).toNatClampNeg)).toInt ≠ (0 : Int) := zz_neq rfl (by decide) c_113
        refine lv_iconst (v := 1) hx hb dL_law_447 (by decide) ?_
        refine lv_goto (tgt := 452) hx hb dL_law_448 (by decide) ?_
        have hPc := hP.sub (ws' := [(h0, .inr (3, [.ref h1, .ref h2, .ref h4])), (h1, .inl (kS, 4, .inr (.inr (.inr (.inr (fun _ => none))))))]) [0, 1] rfl
        have hKc := hK.sub (tys' := [(kS, .object "SignForms$Stream")]) [0] rfl
        refine vp_callSi (W.runV (As := [.int (xs (1 : Int32).toNatClampNeg), .int (xs (2 : Int32).toNatClampNeg), .int 1]) (rest := []) ⟨hx, hb, hml, hown, hts⟩ (kX4_write l dC dI h0 h1 h2 h4 kS (xs (1 : Int32).toNatClampNeg) (xs (2 : Int32).toNatClampNeg) 1) (cwV 3 hts gL_law_X4_write rfl rfl rfl (by decide +kernel) ⟨Nat.le_of_ble_eq_true rfl, Nat.le_of_ble_eq_true rfl⟩) ⟨fun a U g mk q => by obtain ⟨q0, qP, qK⟩ := q; exact ⟨q0, qP, va_K.moved (u := U) (U := U.calling g mk a) (Vm.Alike.refl U.vm) qK⟩, va_recv hKc hPc (ci := 3) (q0 := 0) rfl rfl, fun U hU hW => ⟨rfl, by rw [hU]; exact hPc, va_K.moved hW.alike hKc⟩⟩ rfl rfl hl.1 rfl (lv_room (Nat.le_of_ble_eq_true rfl)) dL_law_452 ⟨Nat.le_of_ble_eq_true rfl, Nat.le_of_ble_eq_true rfl⟩) (fun r_129 hwr_129 => ?_)
        refine lv_aload_n hx hb dL_law_455 rfl (lv_at hl 1 rfl) ?_
        refine lv_aload_n hx hb dL_law_456 rfl (lv_at hl 3 rfl) ?_
        refine lv_iload_n hx hb dL_law_457 rfl (lv_at hl 0 rfl) ?_
        refine lv_iconst (v := 1) hx hb dL_law_458 (by decide) ?_
        refine lv_iadd hx hb dL_law_459 ?_
        refine lv_topi (fun x_130 ex_130 => ?_)
        obtain rfl : x_130 = 1 := ex_130.trans (by decide)
        refine va_sld hx hb hX hbl hbA hS (vp_in_iff.mpr (by decide)) dL_law_460 ?_
        refine lv_aload_n hx hb dL_law_461 rfl (lv_at hl 3 rfl) ?_
        refine lv_iload_n hx hb dL_law_462 rfl (lv_at hl 0 rfl) ?_
        refine lv_iconst (v := 2) hx hb dL_law_463 (by decide) ?_
        refine lv_iadd hx hb dL_law_464 ?_
        refine lv_topi (fun x_131 ex_131 => ?_)
        obtain rfl : x_131 = 2 := ex_131.trans (by decide)
        refine va_sld hx hb hX hbl hbA hS (vp_in_iff.mpr (by decide)) dL_law_465 ?_
        refine lv_aload_n hx hb dL_law_466 rfl (lv_at hl 3 rfl) ?_
        refine lv_iload_n hx hb dL_law_467 rfl (lv_at hl 0 rfl) ?_
        refine lv_iconst (v := 3) hx hb dL_law_468 (by decide) ?_
        refine lv_iadd hx hb dL_law_469 ?_
        refine lv_topi (fun x_132 ex_132 => ?_)
        obtain rfl : x_132 = 3 := ex_132.trans (by decide)
        refine va_sld hx hb hX hbl hbA hS (vp_in_iff.mpr (by decide)) dL_law_470 ?_
        refine lv_if_eq (tgt := 478) hx hb dL_law_471 (by decide) (fun c_133 => ?_) (fun c_133 => ?_)
        · have zc_133 : ((xs (3 : Int32).toNatClampNeg)).toInt = (0 : Int) := zz_eq rfl (by decide) c_133
          refine lv_iconst (v := 0) hx hb dL_law_478 (by decide) ?_
          have hPc := hP.sub (ws' := [(g0, .inr (4, [.ref g1, .ref g2, .ref g3, .ref g4, .ref g5, .ref g6, .ref g7, .ref g8, .ref g9, .ref g10, .ref g11, .ref g12, .ref g13, .ref g14, .ref g15, .ref g16, .ref g17, .ref g18, .int 0, .ref g19, .int 0, .int 0, .int 0])), (g1, .inl (kG1, 4, .inl (fun _ => 0)))]) [5, 6] rfl
          have hKc := hK.sub (tys' := [(kG1, .boolean)]) [2] rfl
          refine vp_callSi (W.runV (As := [.int (xs (1 : Int32).toNatClampNeg), .int (xs (2 : Int32).toNatClampNeg), .int 0]) (rest := [.int r_129]) ⟨hx, hb, hml, hown, hts⟩ (kX5_write l dC dI g0 g1 g2 g3 g4 g5 g6 g7 g8 g9 g10 g11 g12 g13 g14 g15 g16 g17 g18 g19 kG1 (xs (1 : Int32).toNatClampNeg) (xs (2 : Int32).toNatClampNeg) 0) (cwV 3 hts gL_law_X5_write rfl rfl rfl (by decide +kernel) ⟨Nat.le_of_ble_eq_true rfl, Nat.le_of_ble_eq_true rfl⟩) ⟨fun a U g mk q => by obtain ⟨q0, qP, qK⟩ := q; exact ⟨q0, qP, va_K.moved (u := U) (U := U.calling g mk a) (Vm.Alike.refl U.vm) qK⟩, va_recv hKc hPc (ci := 4) (q0 := 0) rfl rfl, fun U hU hW => ⟨rfl, by rw [hU]; exact hPc, va_K.moved hW.alike hKc⟩⟩ rfl rfl hl.1 rfl (lv_room (Nat.le_of_ble_eq_true rfl)) dL_law_479 ⟨Nat.le_of_ble_eq_true rfl, Nat.le_of_ble_eq_true rfl⟩) (fun r_134 hwr_134 => ?_)
          refine lv_icmp_eq (tgt := 672) hx hb dL_law_482 (by decide) (fun _ => ?_) (fun c_135 => False.elim (by first | exact c_135 (hwr_129.trans hwr_134.symm) | exact c_135 (zz_same hwr_129 hwr_134)))
          refine lv_iinc (v := 5) (lv' := [(3, .int 5), (2, .ref g0), (1, .ref h0), (0, .ref b)]) hx hb dL_law_672 hl (k := 0) rfl (by decide) (by decide) rfl (fun ls hl => ?_)
          refine lv_goto (tgt := 18) hx hb dL_law_675 (by decide) ?_
          refine lv_iload_n hx hb dL_law_18 rfl (lv_at hl 0 rfl) ?_
          refine lv_aload_n hx hb dL_law_19 rfl (lv_at hl 3 rfl) ?_
          refine va_slen hx hb hX hbl hbA hS dL_law_20 ?_
          refine W.eq (g2 := F0 m 21 ls [.int 5, .int 5]) rfl ?_
          refine lv_iconst (v := 5) hx hb dL_law_21 (by decide) ?_
          refine lv_isub hx hb dL_law_22 ?_
          refine lv_topi (fun x_137 ex_137 => ?_)
          obtain rfl : x_137 = 0 := ex_137.trans (by decide)
          refine lv_icmp_gt (tgt := 678) hx hb dL_law_23 (by decide) (fun _ => ?_) (fun c_138 => False.elim (by revert c_138; decide))
          refine lv_iconst (v := 1) hx hb dL_law_678 (by decide) ?_
          refine va_forget (fun q hq => hS.2.2 q hq) ?_
          refine W.widen (k := 600000) (n := 7302250) (by omega) (by omega) ?_
          exact lw_ret hx hb hr hlocks dL_law_679
        · have zc_133 : ((xs (3 : Int32).toNatClampNeg)).toInt ≠ (0 : Int) := zz_neq rfl (by decide) c_133
          refine lv_iconst (v := 1) hx hb dL_law_474 (by decide) ?_
          refine lv_goto (tgt := 479) hx hb dL_law_475 (by decide) ?_
          have hPc := hP.sub (ws' := [(g0, .inr (4, [.ref g1, .ref g2, .ref g3, .ref g4, .ref g5, .ref g6, .ref g7, .ref g8, .ref g9, .ref g10, .ref g11, .ref g12, .ref g13, .ref g14, .ref g15, .ref g16, .ref g17, .ref g18, .int 0, .ref g19, .int 0, .int 0, .int 0])), (g1, .inl (kG1, 4, .inl (fun _ => 0)))]) [5, 6] rfl
          have hKc := hK.sub (tys' := [(kG1, .boolean)]) [2] rfl
          refine vp_callSi (W.runV (As := [.int (xs (1 : Int32).toNatClampNeg), .int (xs (2 : Int32).toNatClampNeg), .int 1]) (rest := [.int r_129]) ⟨hx, hb, hml, hown, hts⟩ (kX5_write l dC dI g0 g1 g2 g3 g4 g5 g6 g7 g8 g9 g10 g11 g12 g13 g14 g15 g16 g17 g18 g19 kG1 (xs (1 : Int32).toNatClampNeg) (xs (2 : Int32).toNatClampNeg) 1) (cwV 3 hts gL_law_X5_write rfl rfl rfl (by decide +kernel) ⟨Nat.le_of_ble_eq_true rfl, Nat.le_of_ble_eq_true rfl⟩) ⟨fun a U g mk q => by obtain ⟨q0, qP, qK⟩ := q; exact ⟨q0, qP, va_K.moved (u := U) (U := U.calling g mk a) (Vm.Alike.refl U.vm) qK⟩, va_recv hKc hPc (ci := 4) (q0 := 0) rfl rfl, fun U hU hW => ⟨rfl, by rw [hU]; exact hPc, va_K.moved hW.alike hKc⟩⟩ rfl rfl hl.1 rfl (lv_room (Nat.le_of_ble_eq_true rfl)) dL_law_479 ⟨Nat.le_of_ble_eq_true rfl, Nat.le_of_ble_eq_true rfl⟩) (fun r_139 hwr_139 => ?_)
          refine lv_icmp_eq (tgt := 672) hx hb dL_law_482 (by decide) (fun _ => ?_) (fun c_140 => False.elim (by first | exact c_140 (hwr_129.trans hwr_139.symm) | exact c_140 (zz_same hwr_129 hwr_139)))
          refine lv_iinc (v := 5) (lv' := [(3, .int 5), (2, .ref g0), (1, .ref h0), (0, .ref b)]) hx hb dL_law_672 hl (k := 0) rfl (by decide) (by decide) rfl (fun ls hl => ?_)
          refine lv_goto (tgt := 18) hx hb dL_law_675 (by decide) ?_
          refine lv_iload_n hx hb dL_law_18 rfl (lv_at hl 0 rfl) ?_
          refine lv_aload_n hx hb dL_law_19 rfl (lv_at hl 3 rfl) ?_
          refine va_slen hx hb hX hbl hbA hS dL_law_20 ?_
          refine W.eq (g2 := F0 m 21 ls [.int 5, .int 5]) rfl ?_
          refine lv_iconst (v := 5) hx hb dL_law_21 (by decide) ?_
          refine lv_isub hx hb dL_law_22 ?_
          refine lv_topi (fun x_142 ex_142 => ?_)
          obtain rfl : x_142 = 0 := ex_142.trans (by decide)
          refine lv_icmp_gt (tgt := 678) hx hb dL_law_23 (by decide) (fun _ => ?_) (fun c_143 => False.elim (by revert c_143; decide))
          refine lv_iconst (v := 1) hx hb dL_law_678 (by decide) ?_
          refine va_forget (fun q hq => hS.2.2 q hq) ?_
          refine W.widen (k := 600000) (n := 7302250) (by omega) (by omega) ?_
          exact lw_ret hx hb hr hlocks dL_law_679
    · refine lv_tableIn (tgt := 487) hx hb dL_law_32 (by omega) (by omega) (by rw [hk]; rfl) (by decide) ?_
      refine lv_aload_n hx hb dL_law_487 rfl (lv_at hl 2 rfl) ?_
      refine lv_aload_n hx hb dL_law_488 rfl (lv_at hl 3 rfl) ?_
      refine lv_iload_n hx hb dL_law_489 rfl (lv_at hl 0 rfl) ?_
      refine lv_iconst (v := 1) hx hb dL_law_490 (by decide) ?_
      refine lv_iadd hx hb dL_law_491 ?_
      refine lv_topi (fun x_144 ex_144 => ?_)
      obtain rfl : x_144 = 1 := ex_144.trans (by decide)
      refine va_sld hx hb hX hbl hbA hS (vp_in_iff.mpr (by decide)) dL_law_492 ?_
      refine lv_aload_n hx hb dL_law_493 rfl (lv_at hl 3 rfl) ?_
      refine lv_iload_n hx hb dL_law_494 rfl (lv_at hl 0 rfl) ?_
      refine lv_iconst (v := 2) hx hb dL_law_495 (by decide) ?_
      refine lv_iadd hx hb dL_law_496 ?_
      refine lv_topi (fun x_145 ex_145 => ?_)
      obtain rfl : x_145 = 2 := ex_145.trans (by decide)
      refine va_sld hx hb hX hbl hbA hS (vp_in_iff.mpr (by decide)) dL_law_497 ?_
      refine lv_aload_n hx hb dL_law_498 rfl (lv_at hl 3 rfl) ?_
      refine lv_iload_n hx hb dL_law_499 rfl (lv_at hl 0 rfl) ?_
      refine lv_iconst (v := 3) hx hb dL_law_500 (by decide) ?_
      refine lv_iadd hx hb dL_law_501 ?_
      refine lv_topi (fun x_146 ex_146 => ?_)
      obtain rfl : x_146 = 3 := ex_146.trans (by decide)
      refine va_sld hx hb hX hbl hbA hS (vp_in_iff.mpr (by decide)) dL_law_502 ?_
      refine lv_aload_n hx hb dL_law_503 rfl (lv_at hl 3 rfl) ?_
      refine lv_iload_n hx hb dL_law_504 rfl (lv_at hl 0 rfl) ?_
      refine lv_iconst (v := 4) hx hb dL_law_505 (by decide) ?_
      refine lv_iadd hx hb dL_law_506 ?_
      refine lv_topi (fun x_147 ex_147 => ?_)
      obtain rfl : x_147 = 4 := ex_147.trans (by decide)
      refine va_sld hx hb hX hbl hbA hS (vp_in_iff.mpr (by decide)) dL_law_507 ?_
      have hPc := hP.sub (ws' := [(h0, .inr (3, [.ref h1, .ref h2, .ref h4])), (h1, .inl (kS, 4, .inr (.inr (.inr (.inr (fun _ => none))))))]) [0, 1] rfl
      have hKc := hK.sub (tys' := [(kS, .object "SignForms$Stream")]) [0] rfl
      refine vp_callSi (W.runV (As := [.int (xs (1 : Int32).toNatClampNeg), .int (xs (2 : Int32).toNatClampNeg), .int (xs (3 : Int32).toNatClampNeg), .int (xs (4 : Int32).toNatClampNeg)]) (rest := []) ⟨hx, hb, hml, hown, hts⟩ (kX4_size l dC dI h0 h1 h2 h4 kS (xs (1 : Int32).toNatClampNeg) (xs (2 : Int32).toNatClampNeg) (xs (3 : Int32).toNatClampNeg) (xs (4 : Int32).toNatClampNeg)) (cwV 4 hts gL_law_X4_size rfl rfl rfl (by decide +kernel) ⟨Nat.le_of_ble_eq_true rfl, Nat.le_of_ble_eq_true rfl⟩) ⟨fun a U g mk q => by obtain ⟨q0, qP, qK⟩ := q; exact ⟨q0, qP, va_K.moved (u := U) (U := U.calling g mk a) (Vm.Alike.refl U.vm) qK⟩, va_recv hKc hPc (ci := 3) (q0 := 0) rfl rfl, fun U hU hW => ⟨rfl, by rw [hU]; exact hPc, va_K.moved hW.alike hKc⟩⟩ rfl rfl hl.1 rfl (lv_room (Nat.le_of_ble_eq_true rfl)) dL_law_508 ⟨Nat.le_of_ble_eq_true rfl, Nat.le_of_ble_eq_true rfl⟩) (fun r_148 hwr_148 => ?_)
      refine lv_aload_n hx hb dL_law_511 rfl (lv_at hl 1 rfl) ?_
      refine lv_aload_n hx hb dL_law_512 rfl (lv_at hl 3 rfl) ?_
      refine lv_iload_n hx hb dL_law_513 rfl (lv_at hl 0 rfl) ?_
      refine lv_iconst (v := 1) hx hb dL_law_514 (by decide) ?_
      refine lv_iadd hx hb dL_law_515 ?_
      refine lv_topi (fun x_149 ex_149 => ?_)
      obtain rfl : x_149 = 1 := ex_149.trans (by decide)
      refine va_sld hx hb hX hbl hbA hS (vp_in_iff.mpr (by decide)) dL_law_516 ?_
      refine lv_aload_n hx hb dL_law_517 rfl (lv_at hl 3 rfl) ?_
      refine lv_iload_n hx hb dL_law_518 rfl (lv_at hl 0 rfl) ?_
      refine lv_iconst (v := 2) hx hb dL_law_519 (by decide) ?_
      refine lv_iadd hx hb dL_law_520 ?_
      refine lv_topi (fun x_150 ex_150 => ?_)
      obtain rfl : x_150 = 2 := ex_150.trans (by decide)
      refine va_sld hx hb hX hbl hbA hS (vp_in_iff.mpr (by decide)) dL_law_521 ?_
      refine lv_aload_n hx hb dL_law_522 rfl (lv_at hl 3 rfl) ?_
      refine lv_iload_n hx hb dL_law_523 rfl (lv_at hl 0 rfl) ?_
      refine lv_iconst (v := 3) hx hb dL_law_524 (by decide) ?_
      refine lv_iadd hx hb dL_law_525 ?_
      refine lv_topi (fun x_151 ex_151 => ?_)
      obtain rfl : x_151 = 3 := ex_151.trans (by decide)
      refine va_sld hx hb hX hbl hbA hS (vp_in_iff.mpr (by decide)) dL_law_526 ?_
      refine lv_aload_n hx hb dL_law_527 rfl (lv_at hl 3 rfl) ?_
      refine lv_iload_n hx hb dL_law_528 rfl (lv_at hl 0 rfl) ?_
      refine lv_iconst (v := 4) hx hb dL_law_529 (by decide) ?_
      refine lv_iadd hx hb dL_law_530 ?_
      refine lv_topi (fun x_152 ex_152 => ?_)
      obtain rfl : x_152 = 4 := ex_152.trans (by decide)
      refine va_sld hx hb hX hbl hbA hS (vp_in_iff.mpr (by decide)) dL_law_531 ?_
      have hPc := hP.sub (ws' := [(g0, .inr (4, [.ref g1, .ref g2, .ref g3, .ref g4, .ref g5, .ref g6, .ref g7, .ref g8, .ref g9, .ref g10, .ref g11, .ref g12, .ref g13, .ref g14, .ref g15, .ref g16, .ref g17, .ref g18, .int 0, .ref g19, .int 0, .int 0, .int 0])), (g1, .inl (kG1, 4, .inl (fun _ => 0)))]) [5, 6] rfl
      have hKc := hK.sub (tys' := [(kG1, .boolean)]) [2] rfl
      refine vp_callSi (W.runV (As := [.int (xs (1 : Int32).toNatClampNeg), .int (xs (2 : Int32).toNatClampNeg), .int (xs (3 : Int32).toNatClampNeg), .int (xs (4 : Int32).toNatClampNeg)]) (rest := [.int r_148]) ⟨hx, hb, hml, hown, hts⟩ (kX5_size l dC dI g0 g1 g2 g3 g4 g5 g6 g7 g8 g9 g10 g11 g12 g13 g14 g15 g16 g17 g18 g19 kG1 (xs (1 : Int32).toNatClampNeg) (xs (2 : Int32).toNatClampNeg) (xs (3 : Int32).toNatClampNeg) (xs (4 : Int32).toNatClampNeg)) (cwV 4 hts gL_law_X5_size rfl rfl rfl (by decide +kernel) ⟨Nat.le_of_ble_eq_true rfl, Nat.le_of_ble_eq_true rfl⟩) ⟨fun a U g mk q => by obtain ⟨q0, qP, qK⟩ := q; exact ⟨q0, qP, va_K.moved (u := U) (U := U.calling g mk a) (Vm.Alike.refl U.vm) qK⟩, va_recv hKc hPc (ci := 4) (q0 := 0) rfl rfl, fun U hU hW => ⟨rfl, by rw [hU]; exact hPc, va_K.moved hW.alike hKc⟩⟩ rfl rfl hl.1 rfl (lv_room (Nat.le_of_ble_eq_true rfl)) dL_law_532 ⟨Nat.le_of_ble_eq_true rfl, Nat.le_of_ble_eq_true rfl⟩) (fun r_153 hwr_153 => ?_)
      refine lv_icmp_eq (tgt := 672) hx hb dL_law_535 (by decide) (fun _ => ?_) (fun c_154 => False.elim (by first | exact c_154 (hwr_148.trans hwr_153.symm) | exact c_154 (zz_same hwr_148 hwr_153)))
      refine lv_iinc (v := 5) (lv' := [(3, .int 5), (2, .ref g0), (1, .ref h0), (0, .ref b)]) hx hb dL_law_672 hl (k := 0) rfl (by decide) (by decide) rfl (fun ls hl => ?_)
      refine lv_goto (tgt := 18) hx hb dL_law_675 (by decide) ?_
      refine lv_iload_n hx hb dL_law_18 rfl (lv_at hl 0 rfl) ?_
      refine lv_aload_n hx hb dL_law_19 rfl (lv_at hl 3 rfl) ?_
      refine va_slen hx hb hX hbl hbA hS dL_law_20 ?_
      refine W.eq (g2 := F0 m 21 ls [.int 5, .int 5]) rfl ?_
      refine lv_iconst (v := 5) hx hb dL_law_21 (by decide) ?_
      refine lv_isub hx hb dL_law_22 ?_
      refine lv_topi (fun x_156 ex_156 => ?_)
      obtain rfl : x_156 = 0 := ex_156.trans (by decide)
      refine lv_icmp_gt (tgt := 678) hx hb dL_law_23 (by decide) (fun _ => ?_) (fun c_157 => False.elim (by revert c_157; decide))
      refine lv_iconst (v := 1) hx hb dL_law_678 (by decide) ?_
      refine va_forget (fun q hq => hS.2.2 q hq) ?_
      refine W.widen (k := 600000) (n := 7302250) (by omega) (by omega) ?_
      exact lw_ret hx hb hr hlocks dL_law_679
    · refine lv_tableIn (tgt := 540) hx hb dL_law_32 (by omega) (by omega) (by rw [hk]; rfl) (by decide) ?_
      refine lv_aload_n hx hb dL_law_540 rfl (lv_at hl 2 rfl) ?_
      refine lv_aload_n hx hb dL_law_541 rfl (lv_at hl 3 rfl) ?_
      refine lv_iload_n hx hb dL_law_542 rfl (lv_at hl 0 rfl) ?_
      refine lv_iconst (v := 1) hx hb dL_law_543 (by decide) ?_
      refine lv_iadd hx hb dL_law_544 ?_
      refine lv_topi (fun x_158 ex_158 => ?_)
      obtain rfl : x_158 = 1 := ex_158.trans (by decide)
      refine va_sld hx hb hX hbl hbA hS (vp_in_iff.mpr (by decide)) dL_law_545 ?_
      have hPc := hP.sub (ws' := [(h0, .inr (3, [.ref h1, .ref h2, .ref h4])), (h2, .inr (0, [.ref h3, .int 0]))]) [0, 2] rfl
      have hKc := hK.sub (tys' := []) [] rfl
      refine vp_callSi (W.runV (As := [.int (xs (1 : Int32).toNatClampNeg)]) (rest := []) ⟨hx, hb, hml, hown, hts⟩ (kX4_out l dC dI h0 h1 h2 h3 h4 (xs (1 : Int32).toNatClampNeg)) (cwV 1 hts gL_law_X4_out rfl rfl rfl (by decide +kernel) ⟨Nat.le_of_ble_eq_true rfl, Nat.le_of_ble_eq_true rfl⟩) ⟨fun a U g mk q => by obtain ⟨q0, qP, qK⟩ := q; exact ⟨q0, qP, va_K.moved (u := U) (U := U.calling g mk a) (Vm.Alike.refl U.vm) qK⟩, va_recv hKc hPc (ci := 3) (q0 := 0) rfl rfl, fun U hU hW => ⟨rfl, by rw [hU]; exact hPc, va_K.moved hW.alike hKc⟩⟩ rfl rfl hl.1 rfl (lv_room (Nat.le_of_ble_eq_true rfl)) dL_law_546 ⟨Nat.le_of_ble_eq_true rfl, Nat.le_of_ble_eq_true rfl⟩) (fun r_159 hwr_159 => ?_)
      refine lv_aload_n hx hb dL_law_549 rfl (lv_at hl 1 rfl) ?_
      refine lv_aload_n hx hb dL_law_550 rfl (lv_at hl 3 rfl) ?_
      refine lv_iload_n hx hb dL_law_551 rfl (lv_at hl 0 rfl) ?_
      refine lv_iconst (v := 1) hx hb dL_law_552 (by decide) ?_
      refine lv_iadd hx hb dL_law_553 ?_
      refine lv_topi (fun x_160 ex_160 => ?_)
      obtain rfl : x_160 = 1 := ex_160.trans (by decide)
      refine va_sld hx hb hX hbl hbA hS (vp_in_iff.mpr (by decide)) dL_law_554 ?_
      have hPc := hP.sub (ws' := [(g0, .inr (4, [.ref g1, .ref g2, .ref g3, .ref g4, .ref g5, .ref g6, .ref g7, .ref g8, .ref g9, .ref g10, .ref g11, .ref g12, .ref g13, .ref g14, .ref g15, .ref g16, .ref g17, .ref g18, .int 0, .ref g19, .int 0, .int 0, .int 0]))]) [5] rfl
      have hKc := hK.sub (tys' := []) [] rfl
      refine vp_callSi (W.runV (As := [.int (xs (1 : Int32).toNatClampNeg)]) (rest := [.int r_159]) ⟨hx, hb, hml, hown, hts⟩ (kX5_out l dC dI g0 g1 g2 g3 g4 g5 g6 g7 g8 g9 g10 g11 g12 g13 g14 g15 g16 g17 g18 g19 (xs (1 : Int32).toNatClampNeg)) (cwV 1 hts gL_law_X5_out rfl rfl rfl (by decide +kernel) ⟨Nat.le_of_ble_eq_true rfl, Nat.le_of_ble_eq_true rfl⟩) ⟨fun a U g mk q => by obtain ⟨q0, qP, qK⟩ := q; exact ⟨q0, qP, va_K.moved (u := U) (U := U.calling g mk a) (Vm.Alike.refl U.vm) qK⟩, va_recv hKc hPc (ci := 4) (q0 := 0) rfl rfl, fun U hU hW => ⟨rfl, by rw [hU]; exact hPc, va_K.moved hW.alike hKc⟩⟩ rfl rfl hl.1 rfl (lv_room (Nat.le_of_ble_eq_true rfl)) dL_law_555 ⟨Nat.le_of_ble_eq_true rfl, Nat.le_of_ble_eq_true rfl⟩) (fun r_161 hwr_161 => ?_)
      refine lv_icmp_eq (tgt := 672) hx hb dL_law_558 (by decide) (fun _ => ?_) (fun c_162 => False.elim (by first | exact c_162 (hwr_159.trans hwr_161.symm) | exact c_162 (zz_same hwr_159 hwr_161)))
      refine lv_iinc (v := 5) (lv' := [(3, .int 5), (2, .ref g0), (1, .ref h0), (0, .ref b)]) hx hb dL_law_672 hl (k := 0) rfl (by decide) (by decide) rfl (fun ls hl => ?_)
      refine lv_goto (tgt := 18) hx hb dL_law_675 (by decide) ?_
      refine lv_iload_n hx hb dL_law_18 rfl (lv_at hl 0 rfl) ?_
      refine lv_aload_n hx hb dL_law_19 rfl (lv_at hl 3 rfl) ?_
      refine va_slen hx hb hX hbl hbA hS dL_law_20 ?_
      refine W.eq (g2 := F0 m 21 ls [.int 5, .int 5]) rfl ?_
      refine lv_iconst (v := 5) hx hb dL_law_21 (by decide) ?_
      refine lv_isub hx hb dL_law_22 ?_
      refine lv_topi (fun x_164 ex_164 => ?_)
      obtain rfl : x_164 = 0 := ex_164.trans (by decide)
      refine lv_icmp_gt (tgt := 678) hx hb dL_law_23 (by decide) (fun _ => ?_) (fun c_165 => False.elim (by revert c_165; decide))
      refine lv_iconst (v := 1) hx hb dL_law_678 (by decide) ?_
      refine va_forget (fun q hq => hS.2.2 q hq) ?_
      refine W.widen (k := 600000) (n := 7302250) (by omega) (by omega) ?_
      exact lw_ret hx hb hr hlocks dL_law_679
    · refine lv_tableIn (tgt := 563) hx hb dL_law_32 (by omega) (by omega) (by rw [hk]; rfl) (by decide) ?_
      refine lv_aload_n hx hb dL_law_563 rfl (lv_at hl 2 rfl) ?_
      refine lv_aload_n hx hb dL_law_564 rfl (lv_at hl 3 rfl) ?_
      refine lv_iload_n hx hb dL_law_565 rfl (lv_at hl 0 rfl) ?_
      refine lv_iconst (v := 1) hx hb dL_law_566 (by decide) ?_
      refine lv_iadd hx hb dL_law_567 ?_
      refine lv_topi (fun x_166 ex_166 => ?_)
      obtain rfl : x_166 = 1 := ex_166.trans (by decide)
      refine va_sld hx hb hX hbl hbA hS (vp_in_iff.mpr (by decide)) dL_law_568 ?_
      have hPc := hP.sub (ws' := [(h0, .inr (3, [.ref h1, .ref h2, .ref h4])), (h2, .inr (0, [.ref h3, .int 0]))]) [0, 2] rfl
      have hKc := hK.sub (tys' := []) [] rfl
      refine vp_callSi (W.runV (As := [.int (xs (1 : Int32).toNatClampNeg)]) (rest := []) ⟨hx, hb, hml, hown, hts⟩ (kX4_check l dC dI h0 h1 h2 h3 h4 (xs (1 : Int32).toNatClampNeg)) (cwV 1 hts gL_law_X4_check rfl rfl rfl (by decide +kernel) ⟨Nat.le_of_ble_eq_true rfl, Nat.le_of_ble_eq_true rfl⟩) ⟨fun a U g mk q => by obtain ⟨q0, qP, qK⟩ := q; exact ⟨q0, qP, va_K.moved (u := U) (U := U.calling g mk a) (Vm.Alike.refl U.vm) qK⟩, va_recv hKc hPc (ci := 3) (q0 := 0) rfl rfl, fun U hU hW => ⟨rfl, by rw [hU]; exact hPc, va_K.moved hW.alike hKc⟩⟩ rfl rfl hl.1 rfl (lv_room (Nat.le_of_ble_eq_true rfl)) dL_law_569 ⟨Nat.le_of_ble_eq_true rfl, Nat.le_of_ble_eq_true rfl⟩) (fun r_167 hwr_167 => ?_)
      refine lv_aload_n hx hb dL_law_572 rfl (lv_at hl 1 rfl) ?_
      refine lv_aload_n hx hb dL_law_573 rfl (lv_at hl 3 rfl) ?_
      refine lv_iload_n hx hb dL_law_574 rfl (lv_at hl 0 rfl) ?_
      refine lv_iconst (v := 1) hx hb dL_law_575 (by decide) ?_
      refine lv_iadd hx hb dL_law_576 ?_
      refine lv_topi (fun x_168 ex_168 => ?_)
      obtain rfl : x_168 = 1 := ex_168.trans (by decide)
      refine va_sld hx hb hX hbl hbA hS (vp_in_iff.mpr (by decide)) dL_law_577 ?_
      have hPc := hP.sub (ws' := [(g0, .inr (4, [.ref g1, .ref g2, .ref g3, .ref g4, .ref g5, .ref g6, .ref g7, .ref g8, .ref g9, .ref g10, .ref g11, .ref g12, .ref g13, .ref g14, .ref g15, .ref g16, .ref g17, .ref g18, .int 0, .ref g19, .int 0, .int 0, .int 0]))]) [5] rfl
      have hKc := hK.sub (tys' := []) [] rfl
      refine vp_callSi (W.runV (As := [.int (xs (1 : Int32).toNatClampNeg)]) (rest := [.int r_167]) ⟨hx, hb, hml, hown, hts⟩ (kX5_check l dC dI g0 g1 g2 g3 g4 g5 g6 g7 g8 g9 g10 g11 g12 g13 g14 g15 g16 g17 g18 g19 (xs (1 : Int32).toNatClampNeg)) (cwV 1 hts gL_law_X5_check rfl rfl rfl (by decide +kernel) ⟨Nat.le_of_ble_eq_true rfl, Nat.le_of_ble_eq_true rfl⟩) ⟨fun a U g mk q => by obtain ⟨q0, qP, qK⟩ := q; exact ⟨q0, qP, va_K.moved (u := U) (U := U.calling g mk a) (Vm.Alike.refl U.vm) qK⟩, va_recv hKc hPc (ci := 4) (q0 := 0) rfl rfl, fun U hU hW => ⟨rfl, by rw [hU]; exact hPc, va_K.moved hW.alike hKc⟩⟩ rfl rfl hl.1 rfl (lv_room (Nat.le_of_ble_eq_true rfl)) dL_law_578 ⟨Nat.le_of_ble_eq_true rfl, Nat.le_of_ble_eq_true rfl⟩) (fun r_169 hwr_169 => ?_)
      refine lv_icmp_eq (tgt := 672) hx hb dL_law_581 (by decide) (fun _ => ?_) (fun c_170 => False.elim (by first | exact c_170 (hwr_167.trans hwr_169.symm) | exact c_170 (zz_same hwr_167 hwr_169)))
      refine lv_iinc (v := 5) (lv' := [(3, .int 5), (2, .ref g0), (1, .ref h0), (0, .ref b)]) hx hb dL_law_672 hl (k := 0) rfl (by decide) (by decide) rfl (fun ls hl => ?_)
      refine lv_goto (tgt := 18) hx hb dL_law_675 (by decide) ?_
      refine lv_iload_n hx hb dL_law_18 rfl (lv_at hl 0 rfl) ?_
      refine lv_aload_n hx hb dL_law_19 rfl (lv_at hl 3 rfl) ?_
      refine va_slen hx hb hX hbl hbA hS dL_law_20 ?_
      refine W.eq (g2 := F0 m 21 ls [.int 5, .int 5]) rfl ?_
      refine lv_iconst (v := 5) hx hb dL_law_21 (by decide) ?_
      refine lv_isub hx hb dL_law_22 ?_
      refine lv_topi (fun x_172 ex_172 => ?_)
      obtain rfl : x_172 = 0 := ex_172.trans (by decide)
      refine lv_icmp_gt (tgt := 678) hx hb dL_law_23 (by decide) (fun _ => ?_) (fun c_173 => False.elim (by revert c_173; decide))
      refine lv_iconst (v := 1) hx hb dL_law_678 (by decide) ?_
      refine va_forget (fun q hq => hS.2.2 q hq) ?_
      refine W.widen (k := 600000) (n := 7302250) (by omega) (by omega) ?_
      exact lw_ret hx hb hr hlocks dL_law_679
    · refine lv_tableIn (tgt := 586) hx hb dL_law_32 (by omega) (by omega) (by rw [hk]; rfl) (by decide) ?_
      refine lv_aload_n hx hb dL_law_586 rfl (lv_at hl 2 rfl) ?_
      refine lv_aload_n hx hb dL_law_587 rfl (lv_at hl 3 rfl) ?_
      refine lv_iload_n hx hb dL_law_588 rfl (lv_at hl 0 rfl) ?_
      refine lv_iconst (v := 1) hx hb dL_law_589 (by decide) ?_
      refine lv_iadd hx hb dL_law_590 ?_
      refine lv_topi (fun x_174 ex_174 => ?_)
      obtain rfl : x_174 = 1 := ex_174.trans (by decide)
      refine va_sld hx hb hX hbl hbA hS (vp_in_iff.mpr (by decide)) dL_law_591 ?_
      refine lv_aload_n hx hb dL_law_592 rfl (lv_at hl 3 rfl) ?_
      refine lv_iload_n hx hb dL_law_593 rfl (lv_at hl 0 rfl) ?_
      refine lv_iconst (v := 2) hx hb dL_law_594 (by decide) ?_
      refine lv_iadd hx hb dL_law_595 ?_
      refine lv_topi (fun x_175 ex_175 => ?_)
      obtain rfl : x_175 = 2 := ex_175.trans (by decide)
      refine va_sld hx hb hX hbl hbA hS (vp_in_iff.mpr (by decide)) dL_law_596 ?_
      refine lv_aload_n hx hb dL_law_597 rfl (lv_at hl 3 rfl) ?_
      refine lv_iload_n hx hb dL_law_598 rfl (lv_at hl 0 rfl) ?_
      refine lv_iconst (v := 3) hx hb dL_law_599 (by decide) ?_
      refine lv_iadd hx hb dL_law_600 ?_
      refine lv_topi (fun x_176 ex_176 => ?_)
      obtain rfl : x_176 = 3 := ex_176.trans (by decide)
      refine va_sld hx hb hX hbl hbA hS (vp_in_iff.mpr (by decide)) dL_law_601 ?_
      have hPc := hP.sub (ws' := [(h0, .inr (3, [.ref h1, .ref h2, .ref h4])), (h1, .inl (kS, 4, .inr (.inr (.inr (.inr (fun _ => none))))))]) [0, 1] rfl
      have hKc := hK.sub (tys' := [(kS, .object "SignForms$Stream")]) [0] rfl
      refine vp_callSi (W.runV (As := [.int (xs (1 : Int32).toNatClampNeg), .int (xs (2 : Int32).toNatClampNeg), .int (xs (3 : Int32).toNatClampNeg)]) (rest := []) ⟨hx, hb, hml, hown, hts⟩ (kX4_order l dC dI h0 h1 h2 h4 kS (xs (1 : Int32).toNatClampNeg) (xs (2 : Int32).toNatClampNeg) (xs (3 : Int32).toNatClampNeg)) (cwV 3 hts gL_law_X4_order rfl rfl rfl (by decide +kernel) ⟨Nat.le_of_ble_eq_true rfl, Nat.le_of_ble_eq_true rfl⟩) ⟨fun a U g mk q => by obtain ⟨q0, qP, qK⟩ := q; exact ⟨q0, qP, va_K.moved (u := U) (U := U.calling g mk a) (Vm.Alike.refl U.vm) qK⟩, va_recv hKc hPc (ci := 3) (q0 := 0) rfl rfl, fun U hU hW => ⟨rfl, by rw [hU]; exact hPc, va_K.moved hW.alike hKc⟩⟩ rfl rfl hl.1 rfl (lv_room (Nat.le_of_ble_eq_true rfl)) dL_law_602 ⟨Nat.le_of_ble_eq_true rfl, Nat.le_of_ble_eq_true rfl⟩) (fun r_177 hwr_177 => ?_)
      refine lv_aload_n hx hb dL_law_605 rfl (lv_at hl 1 rfl) ?_
      refine lv_aload_n hx hb dL_law_606 rfl (lv_at hl 3 rfl) ?_
      refine lv_iload_n hx hb dL_law_607 rfl (lv_at hl 0 rfl) ?_
      refine lv_iconst (v := 1) hx hb dL_law_608 (by decide) ?_
      refine lv_iadd hx hb dL_law_609 ?_
      refine lv_topi (fun x_178 ex_178 => ?_)
      obtain rfl : x_178 = 1 := ex_178.trans (by decide)
      refine va_sld hx hb hX hbl hbA hS (vp_in_iff.mpr (by decide)) dL_law_610 ?_
      refine lv_aload_n hx hb dL_law_611 rfl (lv_at hl 3 rfl) ?_
      refine lv_iload_n hx hb dL_law_612 rfl (lv_at hl 0 rfl) ?_
      refine lv_iconst (v := 2) hx hb dL_law_613 (by decide) ?_
      refine lv_iadd hx hb dL_law_614 ?_
      refine lv_topi (fun x_179 ex_179 => ?_)
      obtain rfl : x_179 = 2 := ex_179.trans (by decide)
      refine va_sld hx hb hX hbl hbA hS (vp_in_iff.mpr (by decide)) dL_law_615 ?_
      refine lv_aload_n hx hb dL_law_616 rfl (lv_at hl 3 rfl) ?_
      refine lv_iload_n hx hb dL_law_617 rfl (lv_at hl 0 rfl) ?_
      refine lv_iconst (v := 3) hx hb dL_law_618 (by decide) ?_
      refine lv_iadd hx hb dL_law_619 ?_
      refine lv_topi (fun x_180 ex_180 => ?_)
      obtain rfl : x_180 = 3 := ex_180.trans (by decide)
      refine va_sld hx hb hX hbl hbA hS (vp_in_iff.mpr (by decide)) dL_law_620 ?_
      have hPc := hP.sub (ws' := [(g0, .inr (4, [.ref g1, .ref g2, .ref g3, .ref g4, .ref g5, .ref g6, .ref g7, .ref g8, .ref g9, .ref g10, .ref g11, .ref g12, .ref g13, .ref g14, .ref g15, .ref g16, .ref g17, .ref g18, .int 0, .ref g19, .int 0, .int 0, .int 0])), (g1, .inl (kG1, 4, .inl (fun _ => 0)))]) [5, 6] rfl
      have hKc := hK.sub (tys' := [(kG1, .boolean)]) [2] rfl
      refine vp_callSi (W.runV (As := [.int (xs (1 : Int32).toNatClampNeg), .int (xs (2 : Int32).toNatClampNeg), .int (xs (3 : Int32).toNatClampNeg)]) (rest := [.int r_177]) ⟨hx, hb, hml, hown, hts⟩ (kX5_order l dC dI g0 g1 g2 g3 g4 g5 g6 g7 g8 g9 g10 g11 g12 g13 g14 g15 g16 g17 g18 g19 kG1 (xs (1 : Int32).toNatClampNeg) (xs (2 : Int32).toNatClampNeg) (xs (3 : Int32).toNatClampNeg)) (cwV 3 hts gL_law_X5_order rfl rfl rfl (by decide +kernel) ⟨Nat.le_of_ble_eq_true rfl, Nat.le_of_ble_eq_true rfl⟩) ⟨fun a U g mk q => by obtain ⟨q0, qP, qK⟩ := q; exact ⟨q0, qP, va_K.moved (u := U) (U := U.calling g mk a) (Vm.Alike.refl U.vm) qK⟩, va_recv hKc hPc (ci := 4) (q0 := 0) rfl rfl, fun U hU hW => ⟨rfl, by rw [hU]; exact hPc, va_K.moved hW.alike hKc⟩⟩ rfl rfl hl.1 rfl (lv_room (Nat.le_of_ble_eq_true rfl)) dL_law_621 ⟨Nat.le_of_ble_eq_true rfl, Nat.le_of_ble_eq_true rfl⟩) (fun r_181 hwr_181 => ?_)
      refine lv_icmp_eq (tgt := 672) hx hb dL_law_624 (by decide) (fun _ => ?_) (fun c_182 => False.elim (by first | exact c_182 (hwr_177.trans hwr_181.symm) | exact c_182 (zz_same hwr_177 hwr_181)))
      refine lv_iinc (v := 5) (lv' := [(3, .int 5), (2, .ref g0), (1, .ref h0), (0, .ref b)]) hx hb dL_law_672 hl (k := 0) rfl (by decide) (by decide) rfl (fun ls hl => ?_)
      refine lv_goto (tgt := 18) hx hb dL_law_675 (by decide) ?_
      refine lv_iload_n hx hb dL_law_18 rfl (lv_at hl 0 rfl) ?_
      refine lv_aload_n hx hb dL_law_19 rfl (lv_at hl 3 rfl) ?_
      refine va_slen hx hb hX hbl hbA hS dL_law_20 ?_
      refine W.eq (g2 := F0 m 21 ls [.int 5, .int 5]) rfl ?_
      refine lv_iconst (v := 5) hx hb dL_law_21 (by decide) ?_
      refine lv_isub hx hb dL_law_22 ?_
      refine lv_topi (fun x_184 ex_184 => ?_)
      obtain rfl : x_184 = 0 := ex_184.trans (by decide)
      refine lv_icmp_gt (tgt := 678) hx hb dL_law_23 (by decide) (fun _ => ?_) (fun c_185 => False.elim (by revert c_185; decide))
      refine lv_iconst (v := 1) hx hb dL_law_678 (by decide) ?_
      refine va_forget (fun q hq => hS.2.2 q hq) ?_
      refine W.widen (k := 600000) (n := 7302250) (by omega) (by omega) ?_
      exact lw_ret hx hb hr hlocks dL_law_679
    · refine lv_tableIn (tgt := 629) hx hb dL_law_32 (by omega) (by omega) (by rw [hk]; rfl) (by decide) ?_
      refine lv_aload_n hx hb dL_law_629 rfl (lv_at hl 2 rfl) ?_
      refine lv_aload_n hx hb dL_law_630 rfl (lv_at hl 3 rfl) ?_
      refine lv_iload_n hx hb dL_law_631 rfl (lv_at hl 0 rfl) ?_
      refine lv_iconst (v := 1) hx hb dL_law_632 (by decide) ?_
      refine lv_iadd hx hb dL_law_633 ?_
      refine lv_topi (fun x_186 ex_186 => ?_)
      obtain rfl : x_186 = 1 := ex_186.trans (by decide)
      refine va_sld hx hb hX hbl hbA hS (vp_in_iff.mpr (by decide)) dL_law_634 ?_
      refine lv_aload_n hx hb dL_law_635 rfl (lv_at hl 3 rfl) ?_
      refine lv_iload_n hx hb dL_law_636 rfl (lv_at hl 0 rfl) ?_
      refine lv_iconst (v := 2) hx hb dL_law_637 (by decide) ?_
      refine lv_iadd hx hb dL_law_638 ?_
      refine lv_topi (fun x_187 ex_187 => ?_)
      obtain rfl : x_187 = 2 := ex_187.trans (by decide)
      refine va_sld hx hb hX hbl hbA hS (vp_in_iff.mpr (by decide)) dL_law_639 ?_
      refine lv_aload_n hx hb dL_law_640 rfl (lv_at hl 3 rfl) ?_
      refine lv_iload_n hx hb dL_law_641 rfl (lv_at hl 0 rfl) ?_
      refine lv_iconst (v := 3) hx hb dL_law_642 (by decide) ?_
      refine lv_iadd hx hb dL_law_643 ?_
      refine lv_topi (fun x_188 ex_188 => ?_)
      obtain rfl : x_188 = 3 := ex_188.trans (by decide)
      refine va_sld hx hb hX hbl hbA hS (vp_in_iff.mpr (by decide)) dL_law_644 ?_
      have hPc := hP.sub (ws' := [(h0, .inr (3, [.ref h1, .ref h2, .ref h4])), (h1, .inl (kS, 4, .inr (.inr (.inr (.inr (fun _ => none))))))]) [0, 1] rfl
      have hKc := hK.sub (tys' := [(kS, .object "SignForms$Stream")]) [0] rfl
      refine vp_callSi (W.runV (As := [.int (xs (1 : Int32).toNatClampNeg), .int (xs (2 : Int32).toNatClampNeg), .int (xs (3 : Int32).toNatClampNeg)]) (rest := []) ⟨hx, hb, hml, hown, hts⟩ (kX4_among l dC dI h0 h1 h2 h4 kS (xs (1 : Int32).toNatClampNeg) (xs (2 : Int32).toNatClampNeg) (xs (3 : Int32).toNatClampNeg)) (cwV 3 hts gL_law_X4_among rfl rfl rfl (by decide +kernel) ⟨Nat.le_of_ble_eq_true rfl, Nat.le_of_ble_eq_true rfl⟩) ⟨fun a U g mk q => by obtain ⟨q0, qP, qK⟩ := q; exact ⟨q0, qP, va_K.moved (u := U) (U := U.calling g mk a) (Vm.Alike.refl U.vm) qK⟩, va_recv hKc hPc (ci := 3) (q0 := 0) rfl rfl, fun U hU hW => ⟨rfl, by rw [hU]; exact hPc, va_K.moved hW.alike hKc⟩⟩ rfl rfl hl.1 rfl (lv_room (Nat.le_of_ble_eq_true rfl)) dL_law_645 ⟨Nat.le_of_ble_eq_true rfl, Nat.le_of_ble_eq_true rfl⟩) (fun r_189 hwr_189 => ?_)
      refine lv_aload_n hx hb dL_law_648 rfl (lv_at hl 1 rfl) ?_
      refine lv_aload_n hx hb dL_law_649 rfl (lv_at hl 3 rfl) ?_
      refine lv_iload_n hx hb dL_law_650 rfl (lv_at hl 0 rfl) ?_
      refine lv_iconst (v := 1) hx hb dL_law_651 (by decide) ?_
      refine lv_iadd hx hb dL_law_652 ?_
      refine lv_topi (fun x_190 ex_190 => ?_)
      obtain rfl : x_190 = 1 := ex_190.trans (by decide)
      refine va_sld hx hb hX hbl hbA hS (vp_in_iff.mpr (by decide)) dL_law_653 ?_
      refine lv_aload_n hx hb dL_law_654 rfl (lv_at hl 3 rfl) ?_
      refine lv_iload_n hx hb dL_law_655 rfl (lv_at hl 0 rfl) ?_
      refine lv_iconst (v := 2) hx hb dL_law_656 (by decide) ?_
      refine lv_iadd hx hb dL_law_657 ?_
      refine lv_topi (fun x_191 ex_191 => ?_)
      obtain rfl : x_191 = 2 := ex_191.trans (by decide)
      refine va_sld hx hb hX hbl hbA hS (vp_in_iff.mpr (by decide)) dL_law_658 ?_
      refine lv_aload_n hx hb dL_law_659 rfl (lv_at hl 3 rfl) ?_
      refine lv_iload_n hx hb dL_law_660 rfl (lv_at hl 0 rfl) ?_
      refine lv_iconst (v := 3) hx hb dL_law_661 (by decide) ?_
      refine lv_iadd hx hb dL_law_662 ?_
      refine lv_topi (fun x_192 ex_192 => ?_)
      obtain rfl : x_192 = 3 := ex_192.trans (by decide)
      refine va_sld hx hb hX hbl hbA hS (vp_in_iff.mpr (by decide)) dL_law_663 ?_
      have hPc := hP.sub (ws' := [(g0, .inr (4, [.ref g1, .ref g2, .ref g3, .ref g4, .ref g5, .ref g6, .ref g7, .ref g8, .ref g9, .ref g10, .ref g11, .ref g12, .ref g13, .ref g14, .ref g15, .ref g16, .ref g17, .ref g18, .int 0, .ref g19, .int 0, .int 0, .int 0])), (g1, .inl (kG1, 4, .inl (fun _ => 0)))]) [5, 6] rfl
      have hKc := hK.sub (tys' := [(kG1, .boolean)]) [2] rfl
      refine vp_callSi (W.runV (As := [.int (xs (1 : Int32).toNatClampNeg), .int (xs (2 : Int32).toNatClampNeg), .int (xs (3 : Int32).toNatClampNeg)]) (rest := [.int r_189]) ⟨hx, hb, hml, hown, hts⟩ (kX5_among l dC dI g0 g1 g2 g3 g4 g5 g6 g7 g8 g9 g10 g11 g12 g13 g14 g15 g16 g17 g18 g19 kG1 (xs (1 : Int32).toNatClampNeg) (xs (2 : Int32).toNatClampNeg) (xs (3 : Int32).toNatClampNeg)) (cwV 3 hts gL_law_X5_among rfl rfl rfl (by decide +kernel) ⟨Nat.le_of_ble_eq_true rfl, Nat.le_of_ble_eq_true rfl⟩) ⟨fun a U g mk q => by obtain ⟨q0, qP, qK⟩ := q; exact ⟨q0, qP, va_K.moved (u := U) (U := U.calling g mk a) (Vm.Alike.refl U.vm) qK⟩, va_recv hKc hPc (ci := 4) (q0 := 0) rfl rfl, fun U hU hW => ⟨rfl, by rw [hU]; exact hPc, va_K.moved hW.alike hKc⟩⟩ rfl rfl hl.1 rfl (lv_room (Nat.le_of_ble_eq_true rfl)) dL_law_664 ⟨Nat.le_of_ble_eq_true rfl, Nat.le_of_ble_eq_true rfl⟩) (fun r_193 hwr_193 => ?_)
      refine lv_icmp_eq (tgt := 672) hx hb dL_law_667 (by decide) (fun _ => ?_) (fun c_194 => False.elim (by first | exact c_194 (hwr_189.trans hwr_193.symm) | exact c_194 (zz_same hwr_189 hwr_193)))
      refine lv_iinc (v := 5) (lv' := [(3, .int 5), (2, .ref g0), (1, .ref h0), (0, .ref b)]) hx hb dL_law_672 hl (k := 0) rfl (by decide) (by decide) rfl (fun ls hl => ?_)
      refine lv_goto (tgt := 18) hx hb dL_law_675 (by decide) ?_
      refine lv_iload_n hx hb dL_law_18 rfl (lv_at hl 0 rfl) ?_
      refine lv_aload_n hx hb dL_law_19 rfl (lv_at hl 3 rfl) ?_
      refine va_slen hx hb hX hbl hbA hS dL_law_20 ?_
      refine W.eq (g2 := F0 m 21 ls [.int 5, .int 5]) rfl ?_
      refine lv_iconst (v := 5) hx hb dL_law_21 (by decide) ?_
      refine lv_isub hx hb dL_law_22 ?_
      refine lv_topi (fun x_196 ex_196 => ?_)
      obtain rfl : x_196 = 0 := ex_196.trans (by decide)
      refine lv_icmp_gt (tgt := 678) hx hb dL_law_23 (by decide) (fun _ => ?_) (fun c_197 => False.elim (by revert c_197; decide))
      refine lv_iconst (v := 1) hx hb dL_law_678 (by decide) ?_
      refine va_forget (fun q hq => hS.2.2 q hq) ?_
      refine W.widen (k := 600000) (n := 7302250) (by omega) (by omega) ?_
      exact lw_ret hx hb hr hlocks dL_law_679
    · refine lv_tableOut (tgt := 672) hx hb dL_law_32 (Or.inr (by omega)) (by decide) ?_
      refine lv_iinc (v := 5) (lv' := [(3, .int 5), (2, .ref g0), (1, .ref h0), (0, .ref b)]) hx hb dL_law_672 hl (k := 0) rfl (by decide) (by decide) rfl (fun ls hl => ?_)
      refine lv_goto (tgt := 18) hx hb dL_law_675 (by decide) ?_
      refine lv_iload_n hx hb dL_law_18 rfl (lv_at hl 0 rfl) ?_
      refine lv_aload_n hx hb dL_law_19 rfl (lv_at hl 3 rfl) ?_
      refine va_slen hx hb hX hbl hbA hS dL_law_20 ?_
      refine W.eq (g2 := F0 m 21 ls [.int 5, .int 5]) rfl ?_
      refine lv_iconst (v := 5) hx hb dL_law_21 (by decide) ?_
      refine lv_isub hx hb dL_law_22 ?_
      refine lv_topi (fun x_199 ex_199 => ?_)
      obtain rfl : x_199 = 0 := ex_199.trans (by decide)
      refine lv_icmp_gt (tgt := 678) hx hb dL_law_23 (by decide) (fun _ => ?_) (fun c_200 => False.elim (by revert c_200; decide))
      refine lv_iconst (v := 1) hx hb dL_law_678 (by decide) ?_
      refine va_forget (fun q hq => hS.2.2 q hq) ?_
      refine W.widen (k := 600000) (n := 7302250) (by omega) (by omega) ?_
      exact lw_ret hx hb hr hlocks dL_law_679
end
section
set_option maxHeartbeats 4000000 in
theorem lw_walk (l : Launch) (b : Addr) (xs : List Int32) : MetFree l x (headSpec (Jvm.Cond.code x code maxLocals ret :: tables_1) room_1) (lw_P b xs) (fun _ _ _ _ _ => True) lw_Q := by
  refine MetFree.of_bodyS (code := code) (maxLocals := maxLocals) (ret := ret) (by decide) ?_ ?_
  · intro args s m h hn
    obtain ⟨meth, c, h1, h2, h3, h4, h5, h6, -, -⟩ := Cond.code_spec hn (atoms_spec (ws := Jvm.Cond.code x code maxLocals ret :: tables_1) h _ List.mem_cons_self)
    exact ⟨meth, c, h1, h2, h3, h4, h5, h6⟩
  · intro p e s m args below meth c s₁ B hml0 hP _
    obtain ⟨rfl, hx, hbd, hgv⟩ := hP
    obtain ⟨scr, harrAt, hlist, hof, hsmall⟩ := hx
    obtain ⟨hcb, hkn, -, -⟩ := State.arrayAt?_spec harrAt
    have hown : s.vm.findClass R_law = some m.cls := findClass_of_methodNamed B.named
    have hts0 : ∀ c ∈ (Jvm.Cond.code x code maxLocals ret :: tables_1), c.before #[Value.ref b] s = true := atoms_spec (ws := Jvm.Cond.code x code maxLocals ret :: tables_1) B.pre
    have hts : ∀ w ∈ lw_tbl, w.before #[Value.ref b] s = true := k2_hts_sels lw_privs (fun w hw => hts0 w (List.mem_cons_of_mem _ hw)) lw_privs_ok
    have hml : c.maxLocals = 4 := B.maxLocals_eq (hts0 _ List.mem_cons_self)
    have X₀ : Stand p l e room_1 s m #[Value.ref b] below meth c s₁ [] 0 0 := Stand.of_body B
    have hh0 : s₁.heap = s.heap := by rw [B.state]; rfl
    have hsz : scr.slots.size = xs.length := by rw [← Array.length_toList, hlist, List.length_map]
    have hval : ∀ j : Nat, j < xs.length → scr.slots[j]? = some (.int (xs.getD j 0)) := fun j hj => by
      rw [← Array.getElem?_toList, hlist]
      simp [hj]
    have hbl : b < s.heap.size := (Array.getElem?_eq_some_iff.mp hcb).1
    have hX : va_X b xs.length (fun j => xs.getD j 0) s s.heap := ⟨scr, hcb, hof, hkn, hsz, hval⟩
    have K : W p l e room_1 s m #[Value.ref b] below meth c s₁.heap [] 0 0 (lw_Z below #[Value.ref b] s) (entryFrame m ([Value.ref b] : List Value).toArray 4) := by
      rw [hh0]
      exact whole_start l hbd ⟨B.exec, B.bytes, B.returns, hml, hown, hts, hX, hbl, B.notSynchronized, hgv⟩
    obtain ⟨t, a1, o, b1, b2, b3⟩ := K s₁ rfl X₀
    exact ⟨t, o, a1, b1, b2, b3⟩
theorem lw_pre_spec {args : Array Value} {s : State} (h : (Jvm.Cond.and given_1 narrow_1).before args s = true) (hr : rest_1_c.before args s = true) : ∃ (b : Addr) (xs : List Int32), lw_P b xs args s := by
  have hs := flat_of_before _ h
  have hq := flat_of_before _ hr
  have hc : (Cond.count 1).before args s = true := hs _ (by decide +kernel)
  have harr : (Cond.arrayOf (.arg 0) .int).before args s = true := hs _ (by decide +kernel)
  have hle : (Cond.le (.length (.arg 0)) (.int 5)).before args s = true := hs _ (by decide +kernel)
  have hlen : (Cond.isInt (.length (.arg 0))).before args s = true := hq _ (by decide +kernel)
  have hall : (Cond.all (.arg 0) (.isInt (.elem (.arg 0) (.index 0)))).before args s = true := hq _ (by decide +kernel)
  obtain ⟨b, xs, hb, hx⟩ := State.ints_of_pre rfl harr hlen hall
  have hsm : xs.length < 2 ^ 31 := hx.choose_spec.2.2.2
  have hev : (Term.length (.arg 0)).eval args s none [] s = some (.int xs.length.toInt32) := hx.length_eval hb
  have hv := Cond.le_ints hev (show (Term.int 5).eval args s none [] s = some (.int 5) from rfl)
  have hd : xs.length.toInt32 ≤ 5 := by
    simpa [Cond.before, Cond.holds, hv] using hle
  have hN : xs.length ≤ 5 := (Int32.ofNat_le_ofNat hsm (by decide)).mp (show Int32.ofNat xs.length ≤ Int32.ofNat 5 from hd)
  exact ⟨b, xs, Cond.one_arg hc (show args[0]? = some (.ref b) from hb), hx, hN, h⟩
theorem lw_comes (l : Launch) : Comes l x (Jvm.Cond.code x code maxLocals ret :: tables_1) room_1 (fun tb e args s => Calls_1 tb e args s ∧ rest_1 tb e args s ∧ Pre_1 tb e args s)
    (fun _ _ args s o t => lw_Q args s o t) := by
  intro p e ha hc hk s m args below hf hfit hheap happ hpre
  obtain ⟨b, xs, hP⟩ := lw_pre_spec hpre.2.2 hpre.2.1
  obtain ⟨k, o, h1, h2, h3, hQ⟩ := lw_walk l b xs p e ha hc hk s m args below hf ((Spec.applies_iff_loose hf).mp happ).1 hP trivial
  exact ⟨k, o, h1, h2, h3, hQ⟩
theorem lw_frame {s t : State} {o : Outcome} {args : Array Value} (h : Framed s o t [] 600000 7302250) :
    Framed s o t (fieldLocs frame_1_writes args s ++ arrayLocs frame_1_arrays args s ++ staticLocs frame_1_statics s) 600000 7302250 := h
theorem lw_limb (L : Cond) (hL : ∀ (args : Array Value) (s t : State), L.after args s (.returned (some (.int 1))) t = true) :
    ArmFor flags0 classFile x code maxLocals ret World_1 tables_1 room_1 Calls_1 rest_1 Pre_1
      (fun tb e a s o t => postC L tb e a s o t ∧ Framed s o t (fieldLocs frame_1_writes a s ++ arrayLocs frame_1_arrays a s ++ staticLocs frame_1_statics s) 600000 7302250) := by
  intro l _ _ _ p e ha hc hk s m args below hf hfit hheap happ hpre
  obtain ⟨k, o, h1, h2, h3, rfl, hF⟩ := lw_comes l p e ha hc hk s m args below hf hfit hheap happ hpre
  exact ⟨k, _, h1, h2, h3, hL args s _, lw_frame hF⟩
theorem i_vc : Claimed_1_1 ∧ Claimed_1_2 := ⟨lw_limb limb_1_1 (fun args s t => by simp [limb_1_1, Cond.after, Cond.holds, Cond.value]), lw_limb limb_1_2 (fun args s t => Cond.after_iff.mpr (by
  first | (rw [show limb_1_2 = Cond.eq .result (.int 1) from rfl, Cond.eq_ints (x := 1) (y := 1) rfl rfl]; simp; done) | (simp [limb_1_2, Cond.value, Term.eval]; done)))⟩
end
