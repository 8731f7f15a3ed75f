section
-- ===== PART A: goes FIRST, ahead of the names: the tables' words, and 'selects' of the private methods out of them =====
/-- a private method of a class that the tables say can be made, by its rows of tables_1 -/
def lw_okq (q : MethodName × Nat) : Prop := (q.1.cls ≠ "java/lang/invoke/MethodHandle" ∧ q.1.cls ≠ "java/lang/invoke/VarHandle") ∧ Cond.instantiable q.1.cls q.2 ∈ tables_1 ∧ Cond.privateMethod q.1 ∈ tables_1 ∧ Cond.instanceMethod q.1 ∈ tables_1
theorem lw_p0 : lw_okq (⟨"SignForms", "isStream", "(I)Z"⟩, 3) := ⟨⟨by decide +kernel, by decide +kernel⟩, List.mem_of_getElem? (i := 9) (by decide +kernel), List.mem_of_getElem? (i := 70) (by decide +kernel), List.mem_of_getElem? (i := 71) (by decide +kernel)⟩
theorem lw_p1 : lw_okq (⟨"SignForms$Stream", "findForm", "()V"⟩, 16) := ⟨⟨by decide +kernel, by decide +kernel⟩, List.mem_of_getElem? (i := 73) (by decide +kernel), List.mem_of_getElem? (i := 156) (by decide +kernel), List.mem_of_getElem? (i := 157) (by decide +kernel)⟩
theorem lw_p2 : lw_okq (⟨"SignForms$Stream", "agrees", "(II)Z"⟩, 16) := ⟨⟨by decide +kernel, by decide +kernel⟩, List.mem_of_getElem? (i := 73) (by decide +kernel), List.mem_of_getElem? (i := 167) (by decide +kernel), List.mem_of_getElem? (i := 168) (by decide +kernel)⟩
theorem lw_p3 : lw_okq (⟨"SignForms$Stream", "tellParts", "()V"⟩, 16) := ⟨⟨by decide +kernel, by decide +kernel⟩, List.mem_of_getElem? (i := 73) (by decide +kernel), List.mem_of_getElem? (i := 173) (by decide +kernel), List.mem_of_getElem? (i := 174) (by decide +kernel)⟩
theorem lw_p4 : lw_okq (⟨"SignForms$Part", "tellNothing", "()V"⟩, 3) := ⟨⟨by decide +kernel, by decide +kernel⟩, List.mem_of_getElem? (i := 35) (by decide +kernel), List.mem_of_getElem? (i := 181) (by decide +kernel), List.mem_of_getElem? (i := 182) (by decide +kernel)⟩
theorem lw_p5 : lw_okq (⟨"SignForms$Part", "lookAtBytes", "([IIIZ)V"⟩, 3) := ⟨⟨by decide +kernel, by decide +kernel⟩, List.mem_of_getElem? (i := 35) (by decide +kernel), List.mem_of_getElem? (i := 185) (by decide +kernel), List.mem_of_getElem? (i := 186) (by decide +kernel)⟩
theorem lw_p6 : lw_okq (⟨"SignForms$Part", "tellSubpart", "(I)V"⟩, 3) := ⟨⟨by decide +kernel, by decide +kernel⟩, List.mem_of_getElem? (i := 35) (by decide +kernel), List.mem_of_getElem? (i := 192) (by decide +kernel), List.mem_of_getElem? (i := 193) (by decide +kernel)⟩
theorem lw_p7 : lw_okq (⟨"SignForms$Part", "lookAtSecondHalf", "([IIII)V"⟩, 3) := ⟨⟨by decide +kernel, by decide +kernel⟩, List.mem_of_getElem? (i := 35) (by decide +kernel), List.mem_of_getElem? (i := 207) (by decide +kernel), List.mem_of_getElem? (i := 208) (by decide +kernel)⟩
theorem lw_p8 : lw_okq (⟨"SignForms$Part", "tellSign", "(II)V"⟩, 3) := ⟨⟨by decide +kernel, by decide +kernel⟩, List.mem_of_getElem? (i := 35) (by decide +kernel), List.mem_of_getElem? (i := 221) (by decide +kernel), List.mem_of_getElem? (i := 222) (by decide +kernel)⟩
theorem lw_p9 : lw_okq (⟨"SignForms$Part", "lookAtPairs", "([IIIZ)V"⟩, 3) := ⟨⟨by decide +kernel, by decide +kernel⟩, List.mem_of_getElem? (i := 35) (by decide +kernel), List.mem_of_getElem? (i := 225) (by decide +kernel), List.mem_of_getElem? (i := 226) (by decide +kernel)⟩
theorem lw_p10 : lw_okq (⟨"SignForms$Part", "lookAtFour", "([IIIZ)V"⟩, 3) := ⟨⟨by decide +kernel, by decide +kernel⟩, List.mem_of_getElem? (i := 35) (by decide +kernel), List.mem_of_getElem? (i := 236) (by decide +kernel), List.mem_of_getElem? (i := 237) (by decide +kernel)⟩
theorem lw_p11 : lw_okq (⟨"SignForms$Stream", "addSign", "(II)V"⟩, 16) := ⟨⟨by decide +kernel, by decide +kernel⟩, List.mem_of_getElem? (i := 73) (by decide +kernel), List.mem_of_getElem? (i := 245) (by decide +kernel), List.mem_of_getElem? (i := 246) (by decide +kernel)⟩
theorem lw_p12 : lw_okq (⟨"SignForms$Stream", "meetSubpart", "()V"⟩, 16) := ⟨⟨by decide +kernel, by decide +kernel⟩, List.mem_of_getElem? (i := 73) (by decide +kernel), List.mem_of_getElem? (i := 249) (by decide +kernel), List.mem_of_getElem? (i := 250) (by decide +kernel)⟩
theorem lw_p13 : lw_okq (⟨"SignForms", "openStream", "(I)LSignForms$Stream;"⟩, 3) := ⟨⟨by decide +kernel, by decide +kernel⟩, List.mem_of_getElem? (i := 9) (by decide +kernel), List.mem_of_getElem? (i := 279) (by decide +kernel), List.mem_of_getElem? (i := 280) (by decide +kernel)⟩
theorem lw_p14 : lw_okq (⟨"SignForms$OutRow", "addNumber", "(II)V"⟩, 2) := ⟨⟨by decide +kernel, by decide +kernel⟩, List.mem_of_getElem? (i := 19) (by decide +kernel), List.mem_of_getElem? (i := 327) (by decide +kernel), List.mem_of_getElem? (i := 328) (by decide +kernel)⟩
theorem lw_p15 : lw_okq (⟨"SignForms$OutRow", "addBytes", "(II)V"⟩, 2) := ⟨⟨by decide +kernel, by decide +kernel⟩, List.mem_of_getElem? (i := 19) (by decide +kernel), List.mem_of_getElem? (i := 332) (by decide +kernel), List.mem_of_getElem? (i := 333) (by decide +kernel)⟩
def lw_privs_1 : List (MethodName × Nat) := [(⟨"SignForms", "isStream", "(I)Z"⟩, 3), (⟨"SignForms$Stream", "findForm", "()V"⟩, 16), (⟨"SignForms$Stream", "agrees", "(II)Z"⟩, 16), (⟨"SignForms$Stream", "tellParts", "()V"⟩, 16), (⟨"SignForms$Part", "tellNothing", "()V"⟩, 3), (⟨"SignForms$Part", "lookAtBytes", "([IIIZ)V"⟩, 3), (⟨"SignForms$Part", "tellSubpart", "(I)V"⟩, 3), (⟨"SignForms$Part", "lookAtSecondHalf", "([IIII)V"⟩, 3), (⟨"SignForms$Part", "tellSign", "(II)V"⟩, 3), (⟨"SignForms$Part", "lookAtPairs", "([IIIZ)V"⟩, 3), (⟨"SignForms$Part", "lookAtFour", "([IIIZ)V"⟩, 3), (⟨"SignForms$Stream", "addSign", "(II)V"⟩, 16), (⟨"SignForms$Stream", "meetSubpart", "()V"⟩, 16), (⟨"SignForms", "openStream", "(I)LSignForms$Stream;"⟩, 3), (⟨"SignForms$OutRow", "addNumber", "(II)V"⟩, 2), (⟨"SignForms$OutRow", "addBytes", "(II)V"⟩, 2)]
theorem lw_r1 : ∀ q ∈ lw_privs_1, lw_okq q := List.forall_mem_cons.mpr ⟨lw_p0, List.forall_mem_cons.mpr ⟨lw_p1, List.forall_mem_cons.mpr ⟨lw_p2, List.forall_mem_cons.mpr ⟨lw_p3, List.forall_mem_cons.mpr ⟨lw_p4, List.forall_mem_cons.mpr ⟨lw_p5, List.forall_mem_cons.mpr ⟨lw_p6, List.forall_mem_cons.mpr ⟨lw_p7, List.forall_mem_cons.mpr ⟨lw_p8, List.forall_mem_cons.mpr ⟨lw_p9, List.forall_mem_cons.mpr ⟨lw_p10, List.forall_mem_cons.mpr ⟨lw_p11, List.forall_mem_cons.mpr ⟨lw_p12, List.forall_mem_cons.mpr ⟨lw_p13, List.forall_mem_cons.mpr ⟨lw_p14, List.forall_mem_cons.mpr ⟨lw_p15, fun _ h => absurd h List.not_mem_nil⟩⟩⟩⟩⟩⟩⟩⟩⟩⟩⟩⟩⟩⟩⟩⟩
theorem lw_p16 : lw_okq (⟨"SignForms$OutRow", "add", "(I)V"⟩, 2) := ⟨⟨by decide +kernel, by decide +kernel⟩, List.mem_of_getElem? (i := 19) (by decide +kernel), List.mem_of_getElem? (i := 336) (by decide +kernel), List.mem_of_getElem? (i := 337) (by decide +kernel)⟩
theorem lw_p17 : lw_okq (⟨"SignForms$OutRow", "addLowFirst", "(II)V"⟩, 2) := ⟨⟨by decide +kernel, by decide +kernel⟩, List.mem_of_getElem? (i := 19) (by decide +kernel), List.mem_of_getElem? (i := 343) (by decide +kernel), List.mem_of_getElem? (i := 344) (by decide +kernel)⟩
theorem lw_p18 : lw_okq (⟨"SignForms$OutRow", "addHighFirst", "(II)V"⟩, 2) := ⟨⟨by decide +kernel, by decide +kernel⟩, List.mem_of_getElem? (i := 19) (by decide +kernel), List.mem_of_getElem? (i := 347) (by decide +kernel), List.mem_of_getElem? (i := 348) (by decide +kernel)⟩
theorem lw_p19 : lw_okq (⟨"SignFormsModel", "findAll", "(I)V"⟩, 23) := ⟨⟨by decide +kernel, by decide +kernel⟩, List.mem_of_getElem? (i := 390) (by decide +kernel), List.mem_of_getElem? (i := 474) (by decide +kernel), List.mem_of_getElem? (i := 475) (by decide +kernel)⟩
theorem lw_p20 : lw_okq (⟨"SignFormsModel", "findForm", "(IZ)I"⟩, 23) := ⟨⟨by decide +kernel, by decide +kernel⟩, List.mem_of_getElem? (i := 390) (by decide +kernel), List.mem_of_getElem? (i := 478) (by decide +kernel), List.mem_of_getElem? (i := 479) (by decide +kernel)⟩
theorem lw_p21 : lw_okq (⟨"SignFormsModel", "isBegun", "(IIIIII)Z"⟩, 23) := ⟨⟨by decide +kernel, by decide +kernel⟩, List.mem_of_getElem? (i := 390) (by decide +kernel), List.mem_of_getElem? (i := 482) (by decide +kernel), List.mem_of_getElem? (i := 483) (by decide +kernel)⟩
theorem lw_p22 : lw_okq (⟨"SignFormsModel", "partAt", "(IIIZ)I"⟩, 23) := ⟨⟨by decide +kernel, by decide +kernel⟩, List.mem_of_getElem? (i := 390) (by decide +kernel), List.mem_of_getElem? (i := 486) (by decide +kernel), List.mem_of_getElem? (i := 487) (by decide +kernel)⟩
theorem lw_p23 : lw_okq (⟨"SignFormsModel", "bytesAt", "(ZIIZ)I"⟩, 23) := ⟨⟨by decide +kernel, by decide +kernel⟩, List.mem_of_getElem? (i := 390) (by decide +kernel), List.mem_of_getElem? (i := 490) (by decide +kernel), List.mem_of_getElem? (i := 491) (by decide +kernel)⟩
theorem lw_p24 : lw_okq (⟨"SignFormsModel", "part", "(II)I"⟩, 23) := ⟨⟨by decide +kernel, by decide +kernel⟩, List.mem_of_getElem? (i := 390) (by decide +kernel), List.mem_of_getElem? (i := 494) (by decide +kernel), List.mem_of_getElem? (i := 495) (by decide +kernel)⟩
theorem lw_p25 : lw_okq (⟨"SignFormsModel", "wanted", "(ZII)I"⟩, 23) := ⟨⟨by decide +kernel, by decide +kernel⟩, List.mem_of_getElem? (i := 390) (by decide +kernel), List.mem_of_getElem? (i := 498) (by decide +kernel), List.mem_of_getElem? (i := 499) (by decide +kernel)⟩
theorem lw_p26 : lw_okq (⟨"SignFormsModel", "goesOn", "(ZII)Z"⟩, 23) := ⟨⟨by decide +kernel, by decide +kernel⟩, List.mem_of_getElem? (i := 390) (by decide +kernel), List.mem_of_getElem? (i := 505) (by decide +kernel), List.mem_of_getElem? (i := 506) (by decide +kernel)⟩
theorem lw_p27 : lw_okq (⟨"SignFormsModel", "numberOf", "(II)I"⟩, 23) := ⟨⟨by decide +kernel, by decide +kernel⟩, List.mem_of_getElem? (i := 390) (by decide +kernel), List.mem_of_getElem? (i := 509) (by decide +kernel), List.mem_of_getElem? (i := 510) (by decide +kernel)⟩
theorem lw_p28 : lw_okq (⟨"SignFormsModel", "numberOf3", "(I)I"⟩, 23) := ⟨⟨by decide +kernel, by decide +kernel⟩, List.mem_of_getElem? (i := 390) (by decide +kernel), List.mem_of_getElem? (i := 513) (by decide +kernel), List.mem_of_getElem? (i := 514) (by decide +kernel)⟩
theorem lw_p29 : lw_okq (⟨"SignFormsModel", "unitAt", "(II)I"⟩, 23) := ⟨⟨by decide +kernel, by decide +kernel⟩, List.mem_of_getElem? (i := 390) (by decide +kernel), List.mem_of_getElem? (i := 520) (by decide +kernel), List.mem_of_getElem? (i := 521) (by decide +kernel)⟩
theorem lw_p30 : lw_okq (⟨"SignFormsModel", "pairsAt", "(IIIIZ)I"⟩, 23) := ⟨⟨by decide +kernel, by decide +kernel⟩, List.mem_of_getElem? (i := 390) (by decide +kernel), List.mem_of_getElem? (i := 526) (by decide +kernel), List.mem_of_getElem? (i := 527) (by decide +kernel)⟩
theorem lw_p31 : lw_okq (⟨"SignFormsModel", "add", "(IIIIZ)V"⟩, 23) := ⟨⟨by decide +kernel, by decide +kernel⟩, List.mem_of_getElem? (i := 390) (by decide +kernel), List.mem_of_getElem? (i := 530) (by decide +kernel), List.mem_of_getElem? (i := 531) (by decide +kernel)⟩
def lw_privs_2 : List (MethodName × Nat) := [(⟨"SignForms$OutRow", "add", "(I)V"⟩, 2), (⟨"SignForms$OutRow", "addLowFirst", "(II)V"⟩, 2), (⟨"SignForms$OutRow", "addHighFirst", "(II)V"⟩, 2), (⟨"SignFormsModel", "findAll", "(I)V"⟩, 23), (⟨"SignFormsModel", "findForm", "(IZ)I"⟩, 23), (⟨"SignFormsModel", "isBegun", "(IIIIII)Z"⟩, 23), (⟨"SignFormsModel", "partAt", "(IIIZ)I"⟩, 23), (⟨"SignFormsModel", "bytesAt", "(ZIIZ)I"⟩, 23), (⟨"SignFormsModel", "part", "(II)I"⟩, 23), (⟨"SignFormsModel", "wanted", "(ZII)I"⟩, 23), (⟨"SignFormsModel", "goesOn", "(ZII)Z"⟩, 23), (⟨"SignFormsModel", "numberOf", "(II)I"⟩, 23), (⟨"SignFormsModel", "numberOf3", "(I)I"⟩, 23), (⟨"SignFormsModel", "unitAt", "(II)I"⟩, 23), (⟨"SignFormsModel", "pairsAt", "(IIIIZ)I"⟩, 23), (⟨"SignFormsModel", "add", "(IIIIZ)V"⟩, 23)]
theorem lw_r2 : ∀ q ∈ lw_privs_2, lw_okq q := List.forall_mem_cons.mpr ⟨lw_p16, List.forall_mem_cons.mpr ⟨lw_p17, List.forall_mem_cons.mpr ⟨lw_p18, List.forall_mem_cons.mpr ⟨lw_p19, List.forall_mem_cons.mpr ⟨lw_p20, List.forall_mem_cons.mpr ⟨lw_p21, List.forall_mem_cons.mpr ⟨lw_p22, List.forall_mem_cons.mpr ⟨lw_p23, List.forall_mem_cons.mpr ⟨lw_p24, List.forall_mem_cons.mpr ⟨lw_p25, List.forall_mem_cons.mpr ⟨lw_p26, List.forall_mem_cons.mpr ⟨lw_p27, List.forall_mem_cons.mpr ⟨lw_p28, List.forall_mem_cons.mpr ⟨lw_p29, List.forall_mem_cons.mpr ⟨lw_p30, List.forall_mem_cons.mpr ⟨lw_p31, fun _ h => absurd h List.not_mem_nil⟩⟩⟩⟩⟩⟩⟩⟩⟩⟩⟩⟩⟩⟩⟩⟩
theorem lw_p32 : lw_okq (⟨"SignFormsModel", "takes", "(I)Z"⟩, 23) := ⟨⟨by decide +kernel, by decide +kernel⟩, List.mem_of_getElem? (i := 390) (by decide +kernel), List.mem_of_getElem? (i := 539) (by decide +kernel), List.mem_of_getElem? (i := 540) (by decide +kernel)⟩
theorem lw_p33 : lw_okq (⟨"SignFormsModel", "isSign", "(II)Z"⟩, 23) := ⟨⟨by decide +kernel, by decide +kernel⟩, List.mem_of_getElem? (i := 390) (by decide +kernel), List.mem_of_getElem? (i := 559) (by decide +kernel), List.mem_of_getElem? (i := 560) (by decide +kernel)⟩
theorem lw_p34 : lw_okq (⟨"SignFormsModel", "laySign", "(II)V"⟩, 23) := ⟨⟨by decide +kernel, by decide +kernel⟩, List.mem_of_getElem? (i := 390) (by decide +kernel), List.mem_of_getElem? (i := 582) (by decide +kernel), List.mem_of_getElem? (i := 583) (by decide +kernel)⟩
theorem lw_p35 : lw_okq (⟨"SignFormsModel", "lay", "(I)V"⟩, 23) := ⟨⟨by decide +kernel, by decide +kernel⟩, List.mem_of_getElem? (i := 390) (by decide +kernel), List.mem_of_getElem? (i := 586) (by decide +kernel), List.mem_of_getElem? (i := 587) (by decide +kernel)⟩
theorem lw_p36 : lw_okq (⟨"SignFormsModel", "layUnit", "(II)V"⟩, 23) := ⟨⟨by decide +kernel, by decide +kernel⟩, List.mem_of_getElem? (i := 390) (by decide +kernel), List.mem_of_getElem? (i := 590) (by decide +kernel), List.mem_of_getElem? (i := 591) (by decide +kernel)⟩
theorem lw_p37 : lw_okq (⟨"SignFormsModel", "layThree", "(I)V"⟩, 23) := ⟨⟨by decide +kernel, by decide +kernel⟩, List.mem_of_getElem? (i := 390) (by decide +kernel), List.mem_of_getElem? (i := 594) (by decide +kernel), List.mem_of_getElem? (i := 595) (by decide +kernel)⟩
theorem lw_p38 : lw_okq (⟨"SignFormsModel", "compared", "(III)I"⟩, 23) := ⟨⟨by decide +kernel, by decide +kernel⟩, List.mem_of_getElem? (i := 390) (by decide +kernel), List.mem_of_getElem? (i := 614) (by decide +kernel), List.mem_of_getElem? (i := 615) (by decide +kernel)⟩
def lw_privs_3 : List (MethodName × Nat) := [(⟨"SignFormsModel", "takes", "(I)Z"⟩, 23), (⟨"SignFormsModel", "isSign", "(II)Z"⟩, 23), (⟨"SignFormsModel", "laySign", "(II)V"⟩, 23), (⟨"SignFormsModel", "lay", "(I)V"⟩, 23), (⟨"SignFormsModel", "layUnit", "(II)V"⟩, 23), (⟨"SignFormsModel", "layThree", "(I)V"⟩, 23), (⟨"SignFormsModel", "compared", "(III)I"⟩, 23)]
theorem lw_r3 : ∀ q ∈ lw_privs_3, lw_okq q := List.forall_mem_cons.mpr ⟨lw_p32, List.forall_mem_cons.mpr ⟨lw_p33, List.forall_mem_cons.mpr ⟨lw_p34, List.forall_mem_cons.mpr ⟨lw_p35, List.forall_mem_cons.mpr ⟨lw_p36, List.forall_mem_cons.mpr ⟨lw_p37, List.forall_mem_cons.mpr ⟨lw_p38, fun _ h => absurd h List.not_mem_nil⟩⟩⟩⟩⟩⟩⟩
def lw_privs : List (MethodName × Nat) := lw_privs_1 ++ (lw_privs_2 ++ (lw_privs_3))
def lw_tbl : List Cond := k2_sels lw_privs ++ tables_1
theorem lw_privs_ok : ∀ q ∈ lw_privs, lw_okq q := by
  show ∀ q ∈ lw_privs_1 ++ (lw_privs_2 ++ (lw_privs_3)), lw_okq q
  exact List.forall_mem_append.mpr ⟨lw_r1, List.forall_mem_append.mpr ⟨lw_r2, lw_r3⟩⟩
end
section
/-! ===== BEGIN words of one list among another's, by their places ===== -/
theorem goodIn_r {big : List Cond} (ws : List Cond) (ps : List Nat) (hp : ws = ps.filterMap (fun i => big[i]?)) (h : ws.all goodWord = true) : GoodIn big ws := by
  intro w hw
  have h1 := List.all_eq_true.mp h w hw
  rw [hp] at hw
  obtain ⟨i, -, hi⟩ := List.mem_filterMap.mp hw
  have hm : w ∈ big := by first | exact List.mem_of_getElem? hi | exact List.getElem?_mem hi
  exact ⟨hm, good_of_word h1⟩
theorem goodIn_app {big a b : List Cond} (ha : GoodIn big a) (hb : GoodIn big b) : GoodIn big (a ++ b) := fun w h => (List.mem_append.mp h).elim (ha w) (hb w)
theorem goodIn_ca {big a b : List Cond} {c : Cond} (ha : GoodIn big (c :: a)) (hb : GoodIn big b) : GoodIn big (c :: (a ++ b)) := fun w h => (List.mem_cons.mp h).elim (fun e => ha w (List.mem_cons.mpr (Or.inl e))) (fun h => (List.mem_append.mp h).elim (fun h => ha w (List.mem_cons.mpr (Or.inr h))) (hb w))
theorem goodIn_sub {big ws : List Cond} (hm : ∀ w ∈ ws, w ∈ big) (h : ws.all goodWord = true) : GoodIn big ws := fun w hw => ⟨hm w hw, good_of_word (List.all_eq_true.mp h w hw)⟩
/-! ===== END ===== -/

/-! ===== BEGIN printed: names, fields, word lists, decode rows ===== -/
def RX0 : String := "SignForms$Halves"
def TX0 : u_T := fun k => match k with
  | _ => ("", "", "", false)
def tyX0 : Nat → FieldType := fun k => match k with
  | _ => .int
abbrev wsX00 : List Cond := u_ws RX0 TX0 0
theorem nmX0 : ∀ a, a < 0 → ∀ b, b < 0 → a ≠ b → (TX0 a).2.1 ≠ (TX0 b).2.1 := by decide +kernel
theorem tyX0_ok : ∀ k, k < 0 → parseFieldDescriptor (TX0 k).2.2.1 = some (tyX0 k) := by decide +kernel
abbrev cX0_isFirst : ByteArray := prog_2_method_2_code
def yX0_isFirst : MethodName := ⟨RX0, "isFirst", "(I)Z"⟩
abbrev cX0_isSecond : ByteArray := prog_2_method_3_code
def yX0_isSecond : MethodName := ⟨RX0, "isSecond", "(I)Z"⟩
abbrev cX0_firstOf : ByteArray := prog_2_method_4_code
def yX0_firstOf : MethodName := ⟨RX0, "firstOf", "(I)I"⟩
abbrev cX0_secondOf : ByteArray := prog_2_method_5_code
def yX0_secondOf : MethodName := ⟨RX0, "secondOf", "(I)I"⟩
abbrev cX0_joined : ByteArray := prog_2_method_6_code
def yX0_joined : MethodName := ⟨RX0, "joined", "(II)I"⟩
def RX1 : String := "SignForms$OutRow"
def TX1 : u_T := fun k => match k with
  | 0 => ("SignForms$OutRow", "bytes", "[I", true)
  | _ => ("SignForms$OutRow", "count", "I", false)
def tyX1 : Nat → FieldType := fun k => match k with
  | 0 => .array .int
  | _ => .int
abbrev wsX10 : List Cond := u_ws RX1 TX1 2
theorem nmX1 : ∀ a, a < 2 → ∀ b, b < 2 → a ≠ b → (TX1 a).2.1 ≠ (TX1 b).2.1 := by decide +kernel
theorem tyX1_ok : ∀ k, k < 2 → parseFieldDescriptor (TX1 k).2.2.1 = some (tyX1 k) := by decide +kernel
abbrev cX1_init : ByteArray := prog_3_method_1_code
def yX1_init : MethodName := ⟨RX1, "<init>", "()V"⟩
abbrev cX1_byteAt : ByteArray := prog_3_method_2_code
def yX1_byteAt : MethodName := ⟨RX1, "byteAt", "(I)I"⟩
abbrev cX1_addSign : ByteArray := prog_3_method_3_code
def yX1_addSign : MethodName := ⟨RX1, "addSign", "(II)V"⟩
abbrev cX1_addNumber : ByteArray := prog_3_method_4_code
def yX1_addNumber : MethodName := ⟨RX1, "addNumber", "(II)V"⟩
abbrev cX1_addBytes : ByteArray := prog_3_method_5_code
def yX1_addBytes : MethodName := ⟨RX1, "addBytes", "(II)V"⟩
abbrev cX1_leadOf : ByteArray := prog_3_method_6_code
def yX1_leadOf : MethodName := ⟨RX1, "leadOf", "(I)I"⟩
abbrev cX1_addLowFirst : ByteArray := prog_3_method_7_code
def yX1_addLowFirst : MethodName := ⟨RX1, "addLowFirst", "(II)V"⟩
abbrev cX1_addHighFirst : ByteArray := prog_3_method_8_code
def yX1_addHighFirst : MethodName := ⟨RX1, "addHighFirst", "(II)V"⟩
abbrev cX1_add : ByteArray := prog_3_method_9_code
def yX1_add : MethodName := ⟨RX1, "add", "(I)V"⟩
def RX2 : String := "SignForms$Part"
def TX2 : u_T := fun k => match k with
  | 0 => ("SignForms$Part", "isSign", "Z", false)
  | 1 => ("SignForms$Part", "sign", "I", false)
  | _ => ("SignForms$Part", "length", "I", false)
def tyX2 : Nat → FieldType := fun k => match k with
  | 0 => .boolean
  | 1 => .int
  | _ => .int
abbrev wsX20 : List Cond := u_ws RX2 TX2 3
theorem nmX2 : ∀ a, a < 3 → ∀ b, b < 3 → a ≠ b → (TX2 a).2.1 ≠ (TX2 b).2.1 := by decide +kernel
theorem tyX2_ok : ∀ k, k < 3 → parseFieldDescriptor (TX2 k).2.2.1 = some (tyX2 k) := by decide +kernel
abbrev cX2_init : ByteArray := prog_4_method_1_code
def yX2_init : MethodName := ⟨RX2, "<init>", "()V"⟩
abbrev cX2_look : ByteArray := prog_4_method_2_code
def yX2_look : MethodName := ⟨RX2, "look", "([IIIIZ)V"⟩
abbrev cX2_tellSign : ByteArray := prog_4_method_3_code
def yX2_tellSign : MethodName := ⟨RX2, "tellSign", "(II)V"⟩
abbrev cX2_tellSubpart : ByteArray := prog_4_method_4_code
def yX2_tellSubpart : MethodName := ⟨RX2, "tellSubpart", "(I)V"⟩
abbrev cX2_tellNothing : ByteArray := prog_4_method_5_code
def yX2_tellNothing : MethodName := ⟨RX2, "tellNothing", "()V"⟩
abbrev cX2_cutLength : ByteArray := prog_4_method_6_code
def yX2_cutLength : MethodName := ⟨RX2, "cutLength", "(II)I"⟩
abbrev cX2_lookAtBytes : ByteArray := prog_4_method_7_code
def yX2_lookAtBytes : MethodName := ⟨RX2, "lookAtBytes", "([IIIZ)V"⟩
abbrev cX2_neededBy : ByteArray := prog_4_method_8_code
def yX2_neededBy : MethodName := ⟨RX2, "neededBy", "(IZ)I"⟩
abbrev cX2_leastBehind : ByteArray := prog_4_method_9_code
def yX2_leastBehind : MethodName := ⟨RX2, "leastBehind", "(I)I"⟩
abbrev cX2_mostBehind : ByteArray := prog_4_method_10_code
def yX2_mostBehind : MethodName := ⟨RX2, "mostBehind", "(IZ)I"⟩
abbrev cX2_lookAtSecondHalf : ByteArray := prog_4_method_11_code
def yX2_lookAtSecondHalf : MethodName := ⟨RX2, "lookAtSecondHalf", "([IIII)V"⟩
abbrev cX2_lookAtPairs : ByteArray := prog_4_method_12_code
def yX2_lookAtPairs : MethodName := ⟨RX2, "lookAtPairs", "([IIIZ)V"⟩
abbrev cX2_lookAtFour : ByteArray := prog_4_method_13_code
def yX2_lookAtFour : MethodName := ⟨RX2, "lookAtFour", "([IIIZ)V"⟩
abbrev cX2_unit : ByteArray := prog_4_method_14_code
def yX2_unit : MethodName := ⟨RX2, "unit", "([IIIZ)I"⟩
def RX3 : String := "SignForms$Stream"
def TX3 : u_T := fun k => match k with
  | 0 => ("SignForms$Stream", "bytes", "[I", true)
  | 1 => ("SignForms$Stream", "signs", "[I", true)
  | 2 => ("SignForms$Stream", "places", "[I", true)
  | 3 => ("SignForms$Stream", "lengths", "[I", true)
  | 4 => ("SignForms$Stream", "replaced", "[I", true)
  | 5 => ("SignForms$Stream", "part", "LSignForms$Part;", true)
  | 6 => ("SignForms$Stream", "form", "I", false)
  | 7 => ("SignForms$Stream", "policy", "I", false)
  | 8 => ("SignForms$Stream", "came", "I", false)
  | 9 => ("SignForms$Stream", "decided", "I", false)
  | 10 => ("SignForms$Stream", "signCount", "I", false)
  | 11 => ("SignForms$Stream", "subparts", "I", false)
  | 12 => ("SignForms$Stream", "firstSubpart", "I", false)
  | 13 => ("SignForms$Stream", "brokenAt", "I", false)
  | 14 => ("SignForms$Stream", "marked", "Z", false)
  | _ => ("SignForms$Stream", "ended", "Z", false)
def tyX3 : Nat → FieldType := fun k => match k with
  | 0 => .array .int
  | 1 => .array .int
  | 2 => .array .int
  | 3 => .array .int
  | 4 => .array .int
  | 5 => .object "SignForms$Part"
  | 6 => .int
  | 7 => .int
  | 8 => .int
  | 9 => .int
  | 10 => .int
  | 11 => .int
  | 12 => .int
  | 13 => .int
  | 14 => .boolean
  | _ => .boolean
abbrev wsX30 : List Cond := u_ws RX3 TX3 16
theorem nmX3 : ∀ a, a < 16 → ∀ b, b < 16 → a ≠ b → (TX3 a).2.1 ≠ (TX3 b).2.1 := by decide +kernel
theorem tyX3_ok : ∀ k, k < 16 → parseFieldDescriptor (TX3 k).2.2.1 = some (tyX3 k) := by decide +kernel
abbrev cX3_init : ByteArray := prog_5_method_1_code
def yX3_init : MethodName := ⟨RX3, "<init>", "()V"⟩
abbrev cX3_begin : ByteArray := prog_5_method_2_code
def yX3_begin : MethodName := ⟨RX3, "begin", "(II)V"⟩
abbrev cX3_hasRoomFor : ByteArray := prog_5_method_3_code
def yX3_hasRoomFor : MethodName := ⟨RX3, "hasRoomFor", "(I)Z"⟩
abbrev cX3_take : ByteArray := prog_5_method_4_code
def yX3_take : MethodName := ⟨RX3, "take", "(I)V"⟩
abbrev cX3_decide : ByteArray := prog_5_method_5_code
def yX3_decide : MethodName := ⟨RX3, "decide", "()V"⟩
abbrev cX3_findForm : ByteArray := prog_5_method_6_code
def yX3_findForm : MethodName := ⟨RX3, "findForm", "()V"⟩
abbrev cX3_agrees : ByteArray := prog_5_method_7_code
def yX3_agrees : MethodName := ⟨RX3, "agrees", "(II)Z"⟩
abbrev cX3_tellParts : ByteArray := prog_5_method_8_code
def yX3_tellParts : MethodName := ⟨RX3, "tellParts", "()V"⟩
abbrev cX3_meetSubpart : ByteArray := prog_5_method_9_code
def yX3_meetSubpart : MethodName := ⟨RX3, "meetSubpart", "()V"⟩
abbrev cX3_addSign : ByteArray := prog_5_method_10_code
def yX3_addSign : MethodName := ⟨RX3, "addSign", "(II)V"⟩
abbrev cX3_fact : ByteArray := prog_5_method_11_code
def yX3_fact : MethodName := ⟨RX3, "fact", "(I)I"⟩
abbrev cX3_hasSign : ByteArray := prog_5_method_12_code
def yX3_hasSign : MethodName := ⟨RX3, "hasSign", "(I)Z"⟩
abbrev cX3_signOver : ByteArray := prog_5_method_13_code
def yX3_signOver : MethodName := ⟨RX3, "signOver", "(I)I"⟩
abbrev cX3_bytesInForm : ByteArray := prog_5_method_14_code
def yX3_bytesInForm : MethodName := ⟨RX3, "bytesInForm", "(III)I"⟩
abbrev cX3_countAmong : ByteArray := prog_5_method_15_code
def yX3_countAmong : MethodName := ⟨RX3, "countAmong", "(II)I"⟩
def RX4 : String := "SignForms"
def TX4 : u_T := fun k => match k with
  | 0 => ("SignForms", "streams", "[LSignForms$Stream;", true)
  | 1 => ("SignForms", "outRow", "LSignForms$OutRow;", true)
  | _ => ("SignForms", "part", "LSignForms$Part;", true)
def tyX4 : Nat → FieldType := fun k => match k with
  | 0 => .array (.object "SignForms$Stream")
  | 1 => .object "SignForms$OutRow"
  | _ => .object "SignForms$Part"
abbrev wsX40 : List Cond := u_ws RX4 TX4 3
theorem nmX4 : ∀ a, a < 3 → ∀ b, b < 3 → a ≠ b → (TX4 a).2.1 ≠ (TX4 b).2.1 := by decide +kernel
theorem tyX4_ok : ∀ k, k < 3 → parseFieldDescriptor (TX4 k).2.2.1 = some (tyX4 k) := by decide +kernel
abbrev cX4_init : ByteArray := prog_1_method_1_code
def yX4_init : MethodName := ⟨RX4, "<init>", "()V"⟩
abbrev cX4_open : ByteArray := prog_1_method_2_code
def yX4_open : MethodName := ⟨RX4, "open", "(III)Z"⟩
abbrev cX4_put : ByteArray := prog_1_method_3_code
def yX4_put : MethodName := ⟨RX4, "put", "(IJI)I"⟩
abbrev cX4_pour : ByteArray := prog_1_method_4_code
def yX4_pour : MethodName := ⟨RX4, "pour", "(III)I"⟩
abbrev cX4_end : ByteArray := prog_1_method_5_code
def yX4_end : MethodName := ⟨RX4, "end", "(I)I"⟩
abbrev cX4_about : ByteArray := prog_1_method_6_code
def yX4_about : MethodName := ⟨RX4, "about", "(II)I"⟩
abbrev cX4_sign : ByteArray := prog_1_method_7_code
def yX4_sign : MethodName := ⟨RX4, "sign", "(II)I"⟩
abbrev cX4_placed : ByteArray := prog_1_method_8_code
def yX4_placed : MethodName := ⟨RX4, "placed", "(III)I"⟩
abbrev cX4_at : ByteArray := prog_1_method_9_code
def yX4_at : MethodName := ⟨RX4, "at", "(II)I"⟩
abbrev cX4_write : ByteArray := prog_1_method_10_code
def yX4_write : MethodName := ⟨RX4, "write", "(IIZ)I"⟩
abbrev cX4_size : ByteArray := prog_1_method_11_code
def yX4_size : MethodName := ⟨RX4, "size", "(IIII)I"⟩
abbrev cX4_out : ByteArray := prog_1_method_12_code
def yX4_out : MethodName := ⟨RX4, "out", "(I)I"⟩
abbrev cX4_check : ByteArray := prog_1_method_13_code
def yX4_check : MethodName := ⟨RX4, "check", "(I)I"⟩
abbrev cX4_order : ByteArray := prog_1_method_14_code
def yX4_order : MethodName := ⟨RX4, "order", "(III)I"⟩
abbrev cX4_among : ByteArray := prog_1_method_15_code
def yX4_among : MethodName := ⟨RX4, "among", "(III)I"⟩
abbrev cX4_isStream : ByteArray := prog_1_method_16_code
def yX4_isStream : MethodName := ⟨RX4, "isStream", "(I)Z"⟩
abbrev cX4_openStream : ByteArray := prog_1_method_17_code
def yX4_openStream : MethodName := ⟨RX4, "openStream", "(I)LSignForms$Stream;"⟩
abbrev cX4_isWritable : ByteArray := prog_1_method_18_code
def yX4_isWritable : MethodName := ⟨RX4, "isWritable", "(I)Z"⟩
abbrev cX4_side : ByteArray := prog_1_method_19_code
def yX4_side : MethodName := ⟨RX4, "side", "(JJ)I"⟩
abbrev cX4_rank : ByteArray := prog_1_method_20_code
def yX4_rank : MethodName := ⟨RX4, "rank", "(II)J"⟩
abbrev cX4_turned : ByteArray := prog_1_method_21_code
def yX4_turned : MethodName := ⟨RX4, "turned", "(I)I"⟩
abbrev cX4_bytesIn : ByteArray := prog_1_method_22_code
def yX4_bytesIn : MethodName := ⟨RX4, "bytesIn", "(II)I"⟩
abbrev cX4_bytesBelowHalved : ByteArray := prog_1_method_23_code
def yX4_bytesBelowHalved : MethodName := ⟨RX4, "bytesBelowHalved", "(I)I"⟩
def RX5 : String := "SignFormsModel"
def TX5 : u_T := fun k => match k with
  | 0 => ("SignFormsModel", "isOpen", "[Z", true)
  | 1 => ("SignFormsModel", "isEnded", "[Z", true)
  | 2 => ("SignFormsModel", "told", "[I", true)
  | 3 => ("SignFormsModel", "form", "[I", true)
  | 4 => ("SignFormsModel", "policy", "[I", true)
  | 5 => ("SignFormsModel", "came", "[I", true)
  | 6 => ("SignFormsModel", "many", "[I", true)
  | 7 => ("SignFormsModel", "value", "[I", true)
  | 8 => ("SignFormsModel", "place", "[I", true)
  | 9 => ("SignFormsModel", "length", "[I", true)
  | 10 => ("SignFormsModel", "isMade", "[Z", true)
  | 11 => ("SignFormsModel", "signs", "[I", true)
  | 12 => ("SignFormsModel", "subparts", "[I", true)
  | 13 => ("SignFormsModel", "open", "[I", true)
  | 14 => ("SignFormsModel", "broken", "[I", true)
  | 15 => ("SignFormsModel", "firstSubpart", "[I", true)
  | 16 => ("SignFormsModel", "isMarked", "[Z", true)
  | 17 => ("SignFormsModel", "out", "[I", true)
  | 18 => ("SignFormsModel", "outSize", "I", false)
  | 19 => ("SignFormsModel", "row", "[I", true)
  | 20 => ("SignFormsModel", "partLength", "I", false)
  | 21 => ("SignFormsModel", "partValue", "I", false)
  | _ => ("SignFormsModel", "written", "I", false)
def tyX5 : Nat → FieldType := fun k => match k with
  | 0 => .array .boolean
  | 1 => .array .boolean
  | 2 => .array .int
  | 3 => .array .int
  | 4 => .array .int
  | 5 => .array .int
  | 6 => .array .int
  | 7 => .array .int
  | 8 => .array .int
  | 9 => .array .int
  | 10 => .array .boolean
  | 11 => .array .int
  | 12 => .array .int
  | 13 => .array .int
  | 14 => .array .int
  | 15 => .array .int
  | 16 => .array .boolean
  | 17 => .array .int
  | 18 => .int
  | 19 => .array .int
  | 20 => .int
  | 21 => .int
  | _ => .int
abbrev wsX50 : List Cond := u_ws RX5 TX5 23
theorem nmX5 : ∀ a, a < 23 → ∀ b, b < 23 → a ≠ b → (TX5 a).2.1 ≠ (TX5 b).2.1 := by decide +kernel
theorem tyX5_ok : ∀ k, k < 23 → parseFieldDescriptor (TX5 k).2.2.1 = some (tyX5 k) := by decide +kernel
abbrev cX5_init : ByteArray := prog_7_method_1_code
def yX5_init : MethodName := ⟨RX5, "<init>", "()V"⟩
abbrev cX5_isStream : ByteArray := prog_7_method_2_code
def yX5_isStream : MethodName := ⟨RX5, "isStream", "(I)Z"⟩
abbrev cX5_isForm : ByteArray := prog_7_method_3_code
def yX5_isForm : MethodName := ⟨RX5, "isForm", "(I)Z"⟩
abbrev cX5_isBetween : ByteArray := prog_7_method_4_code
def yX5_isBetween : MethodName := ⟨RX5, "isBetween", "(III)Z"⟩
abbrev cX5_part : ByteArray := prog_7_method_5_code
def yX5_part : MethodName := ⟨RX5, "part", "(II)I"⟩
abbrev cX5_partAt : ByteArray := prog_7_method_6_code
def yX5_partAt : MethodName := ⟨RX5, "partAt", "(IIIZ)I"⟩
abbrev cX5_unitAt : ByteArray := prog_7_method_7_code
def yX5_unitAt : MethodName := ⟨RX5, "unitAt", "(II)I"⟩
abbrev cX5_pairsAt : ByteArray := prog_7_method_8_code
def yX5_pairsAt : MethodName := ⟨RX5, "pairsAt", "(IIIIZ)I"⟩
abbrev cX5_goesOn : ByteArray := prog_7_method_9_code
def yX5_goesOn : MethodName := ⟨RX5, "goesOn", "(ZII)Z"⟩
abbrev cX5_wanted : ByteArray := prog_7_method_10_code
def yX5_wanted : MethodName := ⟨RX5, "wanted", "(ZII)I"⟩
abbrev cX5_bytesAt : ByteArray := prog_7_method_11_code
def yX5_bytesAt : MethodName := ⟨RX5, "bytesAt", "(ZIIZ)I"⟩
abbrev cX5_numberOf : ByteArray := prog_7_method_12_code
def yX5_numberOf : MethodName := ⟨RX5, "numberOf", "(II)I"⟩
abbrev cX5_numberOf3 : ByteArray := prog_7_method_13_code
def yX5_numberOf3 : MethodName := ⟨RX5, "numberOf3", "(I)I"⟩
abbrev cX5_isBegun : ByteArray := prog_7_method_14_code
def yX5_isBegun : MethodName := ⟨RX5, "isBegun", "(IIIIII)Z"⟩
abbrev cX5_findForm : ByteArray := prog_7_method_15_code
def yX5_findForm : MethodName := ⟨RX5, "findForm", "(IZ)I"⟩
abbrev cX5_add : ByteArray := prog_7_method_16_code
def yX5_add : MethodName := ⟨RX5, "add", "(IIIIZ)V"⟩
abbrev cX5_findAll : ByteArray := prog_7_method_17_code
def yX5_findAll : MethodName := ⟨RX5, "findAll", "(I)V"⟩
abbrev cX5_open : ByteArray := prog_7_method_18_code
def yX5_open : MethodName := ⟨RX5, "open", "(III)Z"⟩
abbrev cX5_takes : ByteArray := prog_7_method_19_code
def yX5_takes : MethodName := ⟨RX5, "takes", "(I)Z"⟩
abbrev cX5_put : ByteArray := prog_7_method_20_code
def yX5_put : MethodName := ⟨RX5, "put", "(IJI)I"⟩
abbrev cX5_pour : ByteArray := prog_7_method_21_code
def yX5_pour : MethodName := ⟨RX5, "pour", "(III)I"⟩
abbrev cX5_end : ByteArray := prog_7_method_22_code
def yX5_end : MethodName := ⟨RX5, "end", "(I)I"⟩
abbrev cX5_about : ByteArray := prog_7_method_23_code
def yX5_about : MethodName := ⟨RX5, "about", "(II)I"⟩
abbrev cX5_isSign : ByteArray := prog_7_method_24_code
def yX5_isSign : MethodName := ⟨RX5, "isSign", "(II)Z"⟩
abbrev cX5_sign : ByteArray := prog_7_method_25_code
def yX5_sign : MethodName := ⟨RX5, "sign", "(II)I"⟩
abbrev cX5_placed : ByteArray := prog_7_method_26_code
def yX5_placed : MethodName := ⟨RX5, "placed", "(III)I"⟩
abbrev cX5_at : ByteArray := prog_7_method_27_code
def yX5_at : MethodName := ⟨RX5, "at", "(II)I"⟩
abbrev cX5_sizeOf : ByteArray := prog_7_method_28_code
def yX5_sizeOf : MethodName := ⟨RX5, "sizeOf", "(II)I"⟩
abbrev cX5_lay : ByteArray := prog_7_method_29_code
def yX5_lay : MethodName := ⟨RX5, "lay", "(I)V"⟩
abbrev cX5_layThree : ByteArray := prog_7_method_30_code
def yX5_layThree : MethodName := ⟨RX5, "layThree", "(I)V"⟩
abbrev cX5_layUnit : ByteArray := prog_7_method_31_code
def yX5_layUnit : MethodName := ⟨RX5, "layUnit", "(II)V"⟩
abbrev cX5_laySign : ByteArray := prog_7_method_32_code
def yX5_laySign : MethodName := ⟨RX5, "laySign", "(II)V"⟩
abbrev cX5_write : ByteArray := prog_7_method_33_code
def yX5_write : MethodName := ⟨RX5, "write", "(IIZ)I"⟩
abbrev cX5_size : ByteArray := prog_7_method_34_code
def yX5_size : MethodName := ⟨RX5, "size", "(IIII)I"⟩
abbrev cX5_out : ByteArray := prog_7_method_35_code
def yX5_out : MethodName := ⟨RX5, "out", "(I)I"⟩
abbrev cX5_check : ByteArray := prog_7_method_36_code
def yX5_check : MethodName := ⟨RX5, "check", "(I)I"⟩
abbrev cX5_compared : ByteArray := prog_7_method_37_code
def yX5_compared : MethodName := ⟨RX5, "compared", "(III)I"⟩
abbrev cX5_order : ByteArray := prog_7_method_38_code
def yX5_order : MethodName := ⟨RX5, "order", "(III)I"⟩
abbrev cX5_among : ByteArray := prog_7_method_39_code
def yX5_among : MethodName := ⟨RX5, "among", "(III)I"⟩
def RJ9 : String := "java/lang/Math"
def TJ9 : u_T := fun k => match k with
  | _ => ("", "", "", false)
def tyJ9 : Nat → FieldType := fun k => match k with
  | _ => .int
abbrev wsJ90 : List Cond := u_ws RJ9 TJ9 0
theorem nmJ9 : ∀ a, a < 0 → ∀ b, b < 0 → a ≠ b → (TJ9 a).2.1 ≠ (TJ9 b).2.1 := by decide +kernel
theorem tyJ9_ok : ∀ k, k < 0 → parseFieldDescriptor (TJ9 k).2.2.1 = some (tyJ9 k) := by decide +kernel
abbrev cJ9_min_7cf53 : ByteArray := prog_8_method_69_code
def yJ9_min_7cf53 : MethodName := ⟨RJ9, "min", "(II)I"⟩
def RL : String := "SignFormsLaw"
abbrev cL_law : ByteArray := code
def yL_law : MethodName := ⟨RL, "law", "([I)Z"⟩
def wsX0_isFirst : List Cond := .code yX0_isFirst cX0_isFirst 1 (some .boolean) :: ([.constant RX0 9 (55296), .constant RX0 10 (56319)])
def wsX0_isSecond : List Cond := .code yX0_isSecond cX0_isSecond 1 (some .boolean) :: ([.constant RX0 11 (56320), .constant RX0 12 (57343)])
def wsX0_firstOf : List Cond := .code yX0_firstOf cX0_firstOf 1 (some .int) :: ([.constant RX0 9 (55296), .constant RX0 13 (65536)])
def wsX0_secondOf : List Cond := .code yX0_secondOf cX0_secondOf 1 (some .int) :: ([.constant RX0 11 (56320), .constant RX0 13 (65536)])
def wsX0_joined : List Cond := .code yX0_joined cX0_joined 2 (some .int) :: ([.constant RX0 13 (65536), .constant RX0 9 (55296), .constant RX0 11 (56320)])
def wsX1_init : List Cond := .code yX1_init cX1_init 1 none :: ([.methodLink RX1 3 objectInit, .instanceMethod objectInit, .code objectInit ⟨#[0xb1]⟩ 1 none, .arrayClass .int, .fieldLink RX1 9 "SignForms$OutRow" "bytes" "[I", .fieldLink RX1 15 "SignForms$OutRow" "count" "I"] ++ wsX10)
def wsX1_byteAt : List Cond := .code yX1_byteAt cX1_byteAt 2 (some .int) :: ([.fieldLink RX1 15 "SignForms$OutRow" "count" "I", .fieldLink RX1 9 "SignForms$OutRow" "bytes" "[I"] ++ wsX10)
def wsX4_bytesBelowHalved : List Cond := .code yX4_bytesBelowHalved cX4_bytesBelowHalved 1 (some .int) :: ([])
def wsX4_bytesIn : List Cond := .code yX4_bytesIn cX4_bytesIn 2 (some .int) :: ([.constant RX4 133 (65536), .methodLink RX4 145 yX4_bytesBelowHalved, .static yX4_bytesBelowHalved, .initialized RX4, .code yX4_bytesBelowHalved cX4_bytesBelowHalved 1 (some .int)])
def wsX1_add : List Cond := .code yX1_add cX1_add 2 none :: ([.fieldLink RX1 15 "SignForms$OutRow" "count" "I", .fieldLink RX1 9 "SignForms$OutRow" "bytes" "[I"] ++ wsX10)
def wsX1_leadOf : List Cond := .code yX1_leadOf cX1_leadOf 1 (some .int) :: ([])
def wsX1_addBytes : List Cond := .code yX1_addBytes cX1_addBytes 4 none :: ([.methodLink RX1 46 yX1_add, .instanceMethod yX1_add, .selects RX1 yX1_add yX1_add, .initialized RX1, .code yX1_add cX1_add 2 none, .fieldLink RX1 15 "SignForms$OutRow" "count" "I", .fieldLink RX1 9 "SignForms$OutRow" "bytes" "[I", .methodLink RX1 50 yX1_leadOf, .static yX1_leadOf, .code yX1_leadOf cX1_leadOf 1 (some .int)] ++ wsX10)
def wsX1_addLowFirst : List Cond := .code yX1_addLowFirst cX1_addLowFirst 4 none :: ([.methodLink RX1 46 yX1_add, .instanceMethod yX1_add, .selects RX1 yX1_add yX1_add, .initialized RX1, .code yX1_add cX1_add 2 none, .fieldLink RX1 15 "SignForms$OutRow" "count" "I", .fieldLink RX1 9 "SignForms$OutRow" "bytes" "[I"] ++ wsX10)
def wsX1_addHighFirst : List Cond := .code yX1_addHighFirst cX1_addHighFirst 4 none :: ([.methodLink RX1 46 yX1_add, .instanceMethod yX1_add, .selects RX1 yX1_add yX1_add, .initialized RX1, .code yX1_add cX1_add 2 none, .fieldLink RX1 15 "SignForms$OutRow" "count" "I", .fieldLink RX1 9 "SignForms$OutRow" "bytes" "[I"] ++ wsX10)
def wsX1_addNumber_r1 : List Cond := [Cond.static yX4_bytesIn, Cond.initialized RX4, Cond.code yX4_bytesIn cX4_bytesIn 2 (some .int), Cond.constant RX4 133 (65536), Cond.methodLink RX4 145 yX4_bytesBelowHalved, Cond.static yX4_bytesBelowHalved, Cond.code yX4_bytesBelowHalved cX4_bytesBelowHalved 1 (some .int), Cond.methodLink RX1 37 yX1_addBytes, Cond.instanceMethod yX1_addBytes, Cond.selects RX1 yX1_addBytes yX1_addBytes, Cond.initialized RX1, Cond.code yX1_addBytes cX1_addBytes 4 none, Cond.methodLink RX1 46 yX1_add, Cond.instanceMethod yX1_add, Cond.selects RX1 yX1_add yX1_add, Cond.code yX1_add cX1_add 2 none, Cond.fieldLink RX1 15 "SignForms$OutRow" "count" "I", Cond.fieldLink RX1 9 "SignForms$OutRow" "bytes" "[I", Cond.methodLink RX1 50 yX1_leadOf, Cond.static yX1_leadOf, Cond.code yX1_leadOf cX1_leadOf 1 (some .int), Cond.methodLink RX1 40 yX1_addLowFirst, Cond.instanceMethod yX1_addLowFirst, Cond.selects RX1 yX1_addLowFirst yX1_addLowFirst]
def wsX1_addNumber_r2 : List Cond := [Cond.code yX1_addLowFirst cX1_addLowFirst 4 none, Cond.methodLink RX1 43 yX1_addHighFirst, Cond.instanceMethod yX1_addHighFirst, Cond.selects RX1 yX1_addHighFirst yX1_addHighFirst, Cond.code yX1_addHighFirst cX1_addHighFirst 4 none]
def wsX1_addNumber : List Cond := .code yX1_addNumber cX1_addNumber 4 none :: ((wsX1_addNumber_r1 ++ wsX1_addNumber_r2) ++ wsX10)
def wsX1_addSign_r1 : List Cond := [Cond.constant RX1 19 (65536), Cond.methodLink RX1 20 yX0_firstOf, Cond.static yX0_firstOf, Cond.initialized RX0, Cond.code yX0_firstOf cX0_firstOf 1 (some .int), Cond.constant RX0 9 (55296), Cond.constant RX0 13 (65536), Cond.methodLink RX1 26 yX1_addNumber, Cond.instanceMethod yX1_addNumber, Cond.selects RX1 yX1_addNumber yX1_addNumber, Cond.initialized RX1, Cond.code yX1_addNumber cX1_addNumber 4 none, Cond.static yX4_bytesIn, Cond.initialized RX4, Cond.code yX4_bytesIn cX4_bytesIn 2 (some .int), Cond.constant RX4 133 (65536), Cond.methodLink RX4 145 yX4_bytesBelowHalved, Cond.static yX4_bytesBelowHalved, Cond.code yX4_bytesBelowHalved cX4_bytesBelowHalved 1 (some .int), Cond.methodLink RX1 37 yX1_addBytes, Cond.instanceMethod yX1_addBytes, Cond.selects RX1 yX1_addBytes yX1_addBytes, Cond.code yX1_addBytes cX1_addBytes 4 none, Cond.methodLink RX1 46 yX1_add]
def wsX1_addSign_r2 : List Cond := [Cond.instanceMethod yX1_add, Cond.selects RX1 yX1_add yX1_add, Cond.code yX1_add cX1_add 2 none, Cond.fieldLink RX1 15 "SignForms$OutRow" "count" "I", Cond.fieldLink RX1 9 "SignForms$OutRow" "bytes" "[I", Cond.methodLink RX1 50 yX1_leadOf, Cond.static yX1_leadOf, Cond.code yX1_leadOf cX1_leadOf 1 (some .int), Cond.methodLink RX1 40 yX1_addLowFirst, Cond.instanceMethod yX1_addLowFirst, Cond.selects RX1 yX1_addLowFirst yX1_addLowFirst, Cond.code yX1_addLowFirst cX1_addLowFirst 4 none, Cond.methodLink RX1 43 yX1_addHighFirst, Cond.instanceMethod yX1_addHighFirst, Cond.selects RX1 yX1_addHighFirst yX1_addHighFirst, Cond.code yX1_addHighFirst cX1_addHighFirst 4 none, Cond.methodLink RX1 30 yX0_secondOf, Cond.static yX0_secondOf, Cond.code yX0_secondOf cX0_secondOf 1 (some .int), Cond.constant RX0 11 (56320)]
def wsX1_addSign : List Cond := .code yX1_addSign cX1_addSign 4 none :: ((wsX1_addSign_r1 ++ wsX1_addSign_r2) ++ wsX10)
def wsX2_init : List Cond := .code yX2_init cX2_init 1 none :: ([.methodLink RX2 3 objectInit, .instanceMethod objectInit, .code objectInit ⟨#[0xb1]⟩ 1 none])
def wsX2_tellNothing : List Cond := .code yX2_tellNothing cX2_tellNothing 1 none :: ([.fieldLink RX2 36 "SignForms$Part" "isSign" "Z", .fieldLink RX2 40 "SignForms$Part" "sign" "I", .fieldLink RX2 24 "SignForms$Part" "length" "I"] ++ wsX20)
def wsX2_neededBy : List Cond := .code yX2_neededBy cX2_neededBy 2 (some .int) :: ([])
def wsX2_tellSubpart : List Cond := .code yX2_tellSubpart cX2_tellSubpart 2 none :: ([.fieldLink RX2 36 "SignForms$Part" "isSign" "Z", .fieldLink RX2 40 "SignForms$Part" "sign" "I", .fieldLink RX2 24 "SignForms$Part" "length" "I"] ++ wsX20)
def wsX2_leastBehind : List Cond := .code yX2_leastBehind cX2_leastBehind 1 (some .int) :: ([])
def wsX2_mostBehind : List Cond := .code yX2_mostBehind cX2_mostBehind 2 (some .int) :: ([])
def wsX2_tellSign : List Cond := .code yX2_tellSign cX2_tellSign 3 none :: ([.fieldLink RX2 36 "SignForms$Part" "isSign" "Z", .fieldLink RX2 40 "SignForms$Part" "sign" "I", .fieldLink RX2 24 "SignForms$Part" "length" "I"] ++ wsX20)
def wsX2_lookAtSecondHalf : List Cond := .code yX2_lookAtSecondHalf cX2_lookAtSecondHalf 9 none :: ([.fieldLink RX2 73 "SignForms$Part" "SECOND_HALF_LEAST" "[I", .fieldLink RX2 77 "SignForms$Part" "SECOND_HALF_MOST" "[I", .constant RX2 80 (65535), .methodLink RX2 32 yX2_tellSubpart, .instanceMethod yX2_tellSubpart, .selects RX2 yX2_tellSubpart yX2_tellSubpart, .initialized RX2, .code yX2_tellSubpart cX2_tellSubpart 2 none, .fieldLink RX2 36 "SignForms$Part" "isSign" "Z", .fieldLink RX2 40 "SignForms$Part" "sign" "I", .fieldLink RX2 24 "SignForms$Part" "length" "I", .methodLink RX2 81 yX0_joined, .static yX0_joined, .initialized RX0, .code yX0_joined cX0_joined 2 (some .int), .constant RX0 13 (65536), .constant RX0 9 (55296), .constant RX0 11 (56320), .methodLink RX2 69 yX2_tellSign, .instanceMethod yX2_tellSign, .selects RX2 yX2_tellSign yX2_tellSign, .code yX2_tellSign cX2_tellSign 3 none] ++ wsX20)
def wsX2_lookAtBytes_r1 : List Cond := [Cond.methodLink RX2 48 yX2_neededBy, Cond.static yX2_neededBy, Cond.initialized RX2, Cond.code yX2_neededBy cX2_neededBy 2 (some .int), Cond.methodLink RX2 32 yX2_tellSubpart, Cond.instanceMethod yX2_tellSubpart, Cond.selects RX2 yX2_tellSubpart yX2_tellSubpart, Cond.code yX2_tellSubpart cX2_tellSubpart 2 none, Cond.fieldLink RX2 36 "SignForms$Part" "isSign" "Z", Cond.fieldLink RX2 40 "SignForms$Part" "sign" "I", Cond.fieldLink RX2 24 "SignForms$Part" "length" "I", Cond.methodLink RX2 52 yX2_leastBehind, Cond.static yX2_leastBehind, Cond.code yX2_leastBehind cX2_leastBehind 1 (some .int), Cond.methodLink RX2 56 yX2_mostBehind, Cond.static yX2_mostBehind, Cond.code yX2_mostBehind cX2_mostBehind 2 (some .int), Cond.methodLink RX2 59 yX0_isFirst, Cond.static yX0_isFirst, Cond.initialized RX0, Cond.code yX0_isFirst cX0_isFirst 1 (some .boolean), Cond.constant RX0 9 (55296), Cond.constant RX0 10 (56319), Cond.methodLink RX2 65 yX2_lookAtSecondHalf]
def wsX2_lookAtBytes_r2 : List Cond := [Cond.instanceMethod yX2_lookAtSecondHalf, Cond.selects RX2 yX2_lookAtSecondHalf yX2_lookAtSecondHalf, Cond.code yX2_lookAtSecondHalf cX2_lookAtSecondHalf 9 none, Cond.fieldLink RX2 73 "SignForms$Part" "SECOND_HALF_LEAST" "[I", Cond.fieldLink RX2 77 "SignForms$Part" "SECOND_HALF_MOST" "[I", Cond.constant RX2 80 (65535), Cond.methodLink RX2 81 yX0_joined, Cond.static yX0_joined, Cond.code yX0_joined cX0_joined 2 (some .int), Cond.constant RX0 13 (65536), Cond.constant RX0 11 (56320), Cond.methodLink RX2 69 yX2_tellSign, Cond.instanceMethod yX2_tellSign, Cond.selects RX2 yX2_tellSign yX2_tellSign, Cond.code yX2_tellSign cX2_tellSign 3 none]
def wsX2_lookAtBytes : List Cond := .code yX2_lookAtBytes cX2_lookAtBytes 12 none :: ((wsX2_lookAtBytes_r1 ++ wsX2_lookAtBytes_r2) ++ wsX20)
def wsX2_unit : List Cond := .code yX2_unit cX2_unit 7 (some .int) :: ([])
def wsX2_lookAtPairs_r1 : List Cond := [Cond.methodLink RX2 84 yX2_unit, Cond.static yX2_unit, Cond.initialized RX2, Cond.code yX2_unit cX2_unit 7 (some .int), Cond.methodLink RX2 88 yX0_isSecond, Cond.static yX0_isSecond, Cond.initialized RX0, Cond.code yX0_isSecond cX0_isSecond 1 (some .boolean), Cond.constant RX0 11 (56320), Cond.constant RX0 12 (57343), Cond.methodLink RX2 32 yX2_tellSubpart, Cond.instanceMethod yX2_tellSubpart, Cond.selects RX2 yX2_tellSubpart yX2_tellSubpart, Cond.code yX2_tellSubpart cX2_tellSubpart 2 none, Cond.fieldLink RX2 36 "SignForms$Part" "isSign" "Z", Cond.fieldLink RX2 40 "SignForms$Part" "sign" "I", Cond.fieldLink RX2 24 "SignForms$Part" "length" "I", Cond.methodLink RX2 59 yX0_isFirst, Cond.static yX0_isFirst, Cond.code yX0_isFirst cX0_isFirst 1 (some .boolean), Cond.constant RX0 9 (55296), Cond.constant RX0 10 (56319), Cond.methodLink RX2 69 yX2_tellSign, Cond.instanceMethod yX2_tellSign]
def wsX2_lookAtPairs_r2 : List Cond := [Cond.selects RX2 yX2_tellSign yX2_tellSign, Cond.code yX2_tellSign cX2_tellSign 3 none, Cond.methodLink RX2 81 yX0_joined, Cond.static yX0_joined, Cond.code yX0_joined cX0_joined 2 (some .int), Cond.constant RX0 13 (65536)]
def wsX2_lookAtPairs : List Cond := .code yX2_lookAtPairs cX2_lookAtPairs 7 none :: ((wsX2_lookAtPairs_r1 ++ wsX2_lookAtPairs_r2) ++ wsX20)
def wsX2_lookAtFour_r1 : List Cond := [Cond.constant RX2 91 (1114111), Cond.methodLink RX2 84 yX2_unit, Cond.static yX2_unit, Cond.initialized RX2, Cond.code yX2_unit cX2_unit 7 (some .int), Cond.methodLink RX2 59 yX0_isFirst, Cond.static yX0_isFirst, Cond.initialized RX0, Cond.code yX0_isFirst cX0_isFirst 1 (some .boolean), Cond.constant RX0 9 (55296), Cond.constant RX0 10 (56319), Cond.methodLink RX2 88 yX0_isSecond, Cond.static yX0_isSecond, Cond.code yX0_isSecond cX0_isSecond 1 (some .boolean), Cond.constant RX0 11 (56320), Cond.constant RX0 12 (57343), Cond.methodLink RX2 69 yX2_tellSign, Cond.instanceMethod yX2_tellSign, Cond.selects RX2 yX2_tellSign yX2_tellSign, Cond.code yX2_tellSign cX2_tellSign 3 none, Cond.fieldLink RX2 36 "SignForms$Part" "isSign" "Z", Cond.fieldLink RX2 40 "SignForms$Part" "sign" "I", Cond.fieldLink RX2 24 "SignForms$Part" "length" "I", Cond.methodLink RX2 32 yX2_tellSubpart]
def wsX2_lookAtFour_r2 : List Cond := [Cond.instanceMethod yX2_tellSubpart, Cond.selects RX2 yX2_tellSubpart yX2_tellSubpart, Cond.code yX2_tellSubpart cX2_tellSubpart 2 none]
def wsX2_lookAtFour : List Cond := .code yX2_lookAtFour cX2_lookAtFour 7 none :: ((wsX2_lookAtFour_r1 ++ wsX2_lookAtFour_r2) ++ wsX20)
def wsX2_cutLength : List Cond := .code yX2_cutLength cX2_cutLength 3 (some .int) :: ([.methodLink RX2 43 Lib.Math.min.name, .static Lib.Math.min.name, .initialized "java/lang/Math", .code Lib.Math.min.name Lib.Math.min.code 2 (some .int)])
def wsX2_look_r1 : List Cond := [Cond.fieldLink RX2 24 "SignForms$Part" "length" "I", Cond.methodLink RX2 9 yX2_tellNothing, Cond.instanceMethod yX2_tellNothing, Cond.selects RX2 yX2_tellNothing yX2_tellNothing, Cond.initialized RX2, Cond.code yX2_tellNothing cX2_tellNothing 1 none, Cond.fieldLink RX2 36 "SignForms$Part" "isSign" "Z", Cond.fieldLink RX2 40 "SignForms$Part" "sign" "I", Cond.methodLink RX2 14 yX2_lookAtBytes, Cond.instanceMethod yX2_lookAtBytes, Cond.selects RX2 yX2_lookAtBytes yX2_lookAtBytes, Cond.code yX2_lookAtBytes cX2_lookAtBytes 12 none, Cond.methodLink RX2 48 yX2_neededBy, Cond.static yX2_neededBy, Cond.code yX2_neededBy cX2_neededBy 2 (some .int), Cond.methodLink RX2 32 yX2_tellSubpart, Cond.instanceMethod yX2_tellSubpart, Cond.selects RX2 yX2_tellSubpart yX2_tellSubpart, Cond.code yX2_tellSubpart cX2_tellSubpart 2 none, Cond.methodLink RX2 52 yX2_leastBehind, Cond.static yX2_leastBehind, Cond.code yX2_leastBehind cX2_leastBehind 1 (some .int), Cond.methodLink RX2 56 yX2_mostBehind, Cond.static yX2_mostBehind]
def wsX2_look_r2 : List Cond := [Cond.code yX2_mostBehind cX2_mostBehind 2 (some .int), Cond.methodLink RX2 59 yX0_isFirst, Cond.static yX0_isFirst, Cond.initialized RX0, Cond.code yX0_isFirst cX0_isFirst 1 (some .boolean), Cond.constant RX0 9 (55296), Cond.constant RX0 10 (56319), Cond.methodLink RX2 65 yX2_lookAtSecondHalf, Cond.instanceMethod yX2_lookAtSecondHalf, Cond.selects RX2 yX2_lookAtSecondHalf yX2_lookAtSecondHalf, Cond.code yX2_lookAtSecondHalf cX2_lookAtSecondHalf 9 none, Cond.fieldLink RX2 73 "SignForms$Part" "SECOND_HALF_LEAST" "[I", Cond.fieldLink RX2 77 "SignForms$Part" "SECOND_HALF_MOST" "[I", Cond.constant RX2 80 (65535), Cond.methodLink RX2 81 yX0_joined, Cond.static yX0_joined, Cond.code yX0_joined cX0_joined 2 (some .int), Cond.constant RX0 13 (65536), Cond.constant RX0 11 (56320), Cond.methodLink RX2 69 yX2_tellSign, Cond.instanceMethod yX2_tellSign, Cond.selects RX2 yX2_tellSign yX2_tellSign, Cond.code yX2_tellSign cX2_tellSign 3 none, Cond.methodLink RX2 18 yX2_lookAtPairs]
def wsX2_look_r3 : List Cond := [Cond.instanceMethod yX2_lookAtPairs, Cond.selects RX2 yX2_lookAtPairs yX2_lookAtPairs, Cond.code yX2_lookAtPairs cX2_lookAtPairs 7 none, Cond.methodLink RX2 84 yX2_unit, Cond.static yX2_unit, Cond.code yX2_unit cX2_unit 7 (some .int), Cond.methodLink RX2 88 yX0_isSecond, Cond.static yX0_isSecond, Cond.code yX0_isSecond cX0_isSecond 1 (some .boolean), Cond.constant RX0 12 (57343), Cond.methodLink RX2 21 yX2_lookAtFour, Cond.instanceMethod yX2_lookAtFour, Cond.selects RX2 yX2_lookAtFour yX2_lookAtFour, Cond.code yX2_lookAtFour cX2_lookAtFour 7 none, Cond.constant RX2 91 (1114111), Cond.methodLink RX2 28 yX2_cutLength, Cond.static yX2_cutLength, Cond.code yX2_cutLength cX2_cutLength 3 (some .int), Cond.methodLink RX2 43 Lib.Math.min.name, Cond.static Lib.Math.min.name, Cond.initialized "java/lang/Math", Cond.code Lib.Math.min.name Lib.Math.min.code 2 (some .int)]
def wsX2_look : List Cond := .code yX2_look cX2_look 6 none :: ((wsX2_look_r1 ++ (wsX2_look_r2 ++ wsX2_look_r3)) ++ wsX20)
def wsX3_init : List Cond := .code yX3_init cX3_init 1 none :: ([.methodLink RX3 3 objectInit, .instanceMethod objectInit, .code objectInit ⟨#[0xb1]⟩ 1 none, .arrayClass .int, .fieldLink RX3 9 "SignForms$Stream" "bytes" "[I", .fieldLink RX3 15 "SignForms$Stream" "signs" "[I", .fieldLink RX3 18 "SignForms$Stream" "places" "[I", .fieldLink RX3 21 "SignForms$Stream" "lengths" "[I", .fieldLink RX3 24 "SignForms$Stream" "replaced" "[I", .classLink RX3 27 RX2, .instantiable RX2 3, .initialized RX2, .fieldLink RX3 30 "SignForms$Stream" "part" "LSignForms$Part;", .instanceMethod yX2_init, .code yX2_init cX2_init 1 none, .methodLink RX2 3 objectInit] ++ wsX30 ++ wsX20)
def wsX3_begin : List Cond := .code yX3_begin cX3_begin 3 none :: ([.fieldLink RX3 34 "SignForms$Stream" "form" "I", .fieldLink RX3 38 "SignForms$Stream" "policy" "I", .fieldLink RX3 41 "SignForms$Stream" "came" "I", .fieldLink RX3 44 "SignForms$Stream" "decided" "I", .fieldLink RX3 47 "SignForms$Stream" "signCount" "I", .fieldLink RX3 50 "SignForms$Stream" "subparts" "I", .fieldLink RX3 53 "SignForms$Stream" "firstSubpart" "I", .fieldLink RX3 56 "SignForms$Stream" "brokenAt" "I", .fieldLink RX3 59 "SignForms$Stream" "marked" "Z", .fieldLink RX3 63 "SignForms$Stream" "ended" "Z"] ++ wsX30)
def wsX3_hasRoomFor : List Cond := .code yX3_hasRoomFor cX3_hasRoomFor 2 (some .boolean) :: ([.fieldLink RX3 9 "SignForms$Stream" "bytes" "[I", .fieldLink RX3 41 "SignForms$Stream" "came" "I"] ++ wsX30)
def wsX3_take : List Cond := .code yX3_take cX3_take 2 none :: ([.fieldLink RX3 41 "SignForms$Stream" "came" "I", .fieldLink RX3 9 "SignForms$Stream" "bytes" "[I"] ++ wsX30)
def wsX3_agrees : List Cond := .code yX3_agrees cX3_agrees 4 (some .boolean) :: ([.fieldLink RX3 9 "SignForms$Stream" "bytes" "[I", .fieldLink RX3 88 "SignForms$Stream" "MARK_BYTES" "[I"] ++ wsX30)
def wsX3_findForm : List Cond := .code yX3_findForm cX3_findForm 3 none :: ([.fieldLink RX3 72 "SignForms$Stream" "MARK_FORMS" "[I", .fieldLink RX3 75 "SignForms$Stream" "MARK_LENGTHS" "[I", .fieldLink RX3 41 "SignForms$Stream" "came" "I", .methodLink RX3 78 Lib.Math.min.name, .static Lib.Math.min.name, .initialized "java/lang/Math", .code Lib.Math.min.name Lib.Math.min.code 2 (some .int), .fieldLink RX3 34 "SignForms$Stream" "form" "I", .fieldLink RX3 59 "SignForms$Stream" "marked" "Z", .fieldLink RX3 44 "SignForms$Stream" "decided" "I", .fieldLink RX3 63 "SignForms$Stream" "ended" "Z", .methodLink RX3 84 yX3_agrees, .instanceMethod yX3_agrees, .selects RX3 yX3_agrees yX3_agrees, .initialized RX3, .code yX3_agrees cX3_agrees 4 (some .boolean), .fieldLink RX3 9 "SignForms$Stream" "bytes" "[I", .fieldLink RX3 88 "SignForms$Stream" "MARK_BYTES" "[I"] ++ wsX30)
def wsX3_addSign : List Cond := .code yX3_addSign cX3_addSign 3 none :: ([.fieldLink RX3 47 "SignForms$Stream" "signCount" "I", .fieldLink RX3 15 "SignForms$Stream" "signs" "[I", .fieldLink RX3 18 "SignForms$Stream" "places" "[I", .fieldLink RX3 44 "SignForms$Stream" "decided" "I", .fieldLink RX3 21 "SignForms$Stream" "lengths" "[I", .fieldLink RX3 30 "SignForms$Stream" "part" "LSignForms$Part;", .fieldLink RX3 95 "SignForms$Part" "length" "I", .fieldLink RX3 24 "SignForms$Stream" "replaced" "[I"] ++ wsX30 ++ wsX20)
def wsX3_meetSubpart : List Cond := .code yX3_meetSubpart cX3_meetSubpart 1 none :: ([.fieldLink RX3 50 "SignForms$Stream" "subparts" "I", .fieldLink RX3 53 "SignForms$Stream" "firstSubpart" "I", .fieldLink RX3 44 "SignForms$Stream" "decided" "I", .fieldLink RX3 38 "SignForms$Stream" "policy" "I", .constant RX3 111 (65533), .fieldLink RX3 56 "SignForms$Stream" "brokenAt" "I", .methodLink RX3 104 yX3_addSign, .instanceMethod yX3_addSign, .selects RX3 yX3_addSign yX3_addSign, .initialized RX3, .code yX3_addSign cX3_addSign 3 none, .fieldLink RX3 47 "SignForms$Stream" "signCount" "I", .fieldLink RX3 15 "SignForms$Stream" "signs" "[I", .fieldLink RX3 18 "SignForms$Stream" "places" "[I", .fieldLink RX3 21 "SignForms$Stream" "lengths" "[I", .fieldLink RX3 30 "SignForms$Stream" "part" "LSignForms$Part;", .fieldLink RX3 95 "SignForms$Part" "length" "I", .fieldLink RX3 24 "SignForms$Stream" "replaced" "[I"] ++ wsX30 ++ wsX20)
def wsX3_tellParts_r1 : List Cond := [Cond.fieldLink RX3 44 "SignForms$Stream" "decided" "I", Cond.fieldLink RX3 41 "SignForms$Stream" "came" "I", Cond.fieldLink RX3 56 "SignForms$Stream" "brokenAt" "I", Cond.fieldLink RX3 30 "SignForms$Stream" "part" "LSignForms$Part;", Cond.fieldLink RX3 9 "SignForms$Stream" "bytes" "[I", Cond.fieldLink RX3 34 "SignForms$Stream" "form" "I", Cond.fieldLink RX3 63 "SignForms$Stream" "ended" "Z", Cond.fieldLink RX3 95 "SignForms$Part" "length" "I", Cond.fieldLink RX3 98 "SignForms$Part" "isSign" "Z", Cond.fieldLink RX3 101 "SignForms$Part" "sign" "I", Cond.methodLink RX3 91 yX2_look, Cond.instanceMethod yX2_look, Cond.selects RX2 yX2_look yX2_look, Cond.initialized RX2, Cond.code yX2_look cX2_look 6 none, Cond.fieldLink RX2 24 "SignForms$Part" "length" "I", Cond.methodLink RX2 9 yX2_tellNothing, Cond.instanceMethod yX2_tellNothing, Cond.selects RX2 yX2_tellNothing yX2_tellNothing, Cond.code yX2_tellNothing cX2_tellNothing 1 none, Cond.fieldLink RX2 36 "SignForms$Part" "isSign" "Z", Cond.fieldLink RX2 40 "SignForms$Part" "sign" "I", Cond.methodLink RX2 14 yX2_lookAtBytes, Cond.instanceMethod yX2_lookAtBytes]
def wsX3_tellParts_r2 : List Cond := [Cond.selects RX2 yX2_lookAtBytes yX2_lookAtBytes, Cond.code yX2_lookAtBytes cX2_lookAtBytes 12 none, Cond.methodLink RX2 48 yX2_neededBy, Cond.static yX2_neededBy, Cond.code yX2_neededBy cX2_neededBy 2 (some .int), Cond.methodLink RX2 32 yX2_tellSubpart, Cond.instanceMethod yX2_tellSubpart, Cond.selects RX2 yX2_tellSubpart yX2_tellSubpart, Cond.code yX2_tellSubpart cX2_tellSubpart 2 none, Cond.methodLink RX2 52 yX2_leastBehind, Cond.static yX2_leastBehind, Cond.code yX2_leastBehind cX2_leastBehind 1 (some .int), Cond.methodLink RX2 56 yX2_mostBehind, Cond.static yX2_mostBehind, Cond.code yX2_mostBehind cX2_mostBehind 2 (some .int), Cond.methodLink RX2 59 yX0_isFirst, Cond.static yX0_isFirst, Cond.initialized RX0, Cond.code yX0_isFirst cX0_isFirst 1 (some .boolean), Cond.constant RX0 9 (55296), Cond.constant RX0 10 (56319), Cond.methodLink RX2 65 yX2_lookAtSecondHalf, Cond.instanceMethod yX2_lookAtSecondHalf, Cond.selects RX2 yX2_lookAtSecondHalf yX2_lookAtSecondHalf]
def wsX3_tellParts_r3 : List Cond := [Cond.code yX2_lookAtSecondHalf cX2_lookAtSecondHalf 9 none, Cond.fieldLink RX2 73 "SignForms$Part" "SECOND_HALF_LEAST" "[I", Cond.fieldLink RX2 77 "SignForms$Part" "SECOND_HALF_MOST" "[I", Cond.constant RX2 80 (65535), Cond.methodLink RX2 81 yX0_joined, Cond.static yX0_joined, Cond.code yX0_joined cX0_joined 2 (some .int), Cond.constant RX0 13 (65536), Cond.constant RX0 11 (56320), Cond.methodLink RX2 69 yX2_tellSign, Cond.instanceMethod yX2_tellSign, Cond.selects RX2 yX2_tellSign yX2_tellSign, Cond.code yX2_tellSign cX2_tellSign 3 none, Cond.methodLink RX2 18 yX2_lookAtPairs, Cond.instanceMethod yX2_lookAtPairs, Cond.selects RX2 yX2_lookAtPairs yX2_lookAtPairs, Cond.code yX2_lookAtPairs cX2_lookAtPairs 7 none, Cond.methodLink RX2 84 yX2_unit, Cond.static yX2_unit, Cond.code yX2_unit cX2_unit 7 (some .int), Cond.methodLink RX2 88 yX0_isSecond, Cond.static yX0_isSecond, Cond.code yX0_isSecond cX0_isSecond 1 (some .boolean), Cond.constant RX0 12 (57343)]
def wsX3_tellParts_r4 : List Cond := [Cond.methodLink RX2 21 yX2_lookAtFour, Cond.instanceMethod yX2_lookAtFour, Cond.selects RX2 yX2_lookAtFour yX2_lookAtFour, Cond.code yX2_lookAtFour cX2_lookAtFour 7 none, Cond.constant RX2 91 (1114111), Cond.methodLink RX2 28 yX2_cutLength, Cond.static yX2_cutLength, Cond.code yX2_cutLength cX2_cutLength 3 (some .int), Cond.methodLink RX2 43 Lib.Math.min.name, Cond.static Lib.Math.min.name, Cond.initialized "java/lang/Math", Cond.code Lib.Math.min.name Lib.Math.min.code 2 (some .int), Cond.methodLink RX3 104 yX3_addSign, Cond.instanceMethod yX3_addSign, Cond.selects RX3 yX3_addSign yX3_addSign, Cond.initialized RX3, Cond.code yX3_addSign cX3_addSign 3 none, Cond.fieldLink RX3 47 "SignForms$Stream" "signCount" "I", Cond.fieldLink RX3 15 "SignForms$Stream" "signs" "[I", Cond.fieldLink RX3 18 "SignForms$Stream" "places" "[I", Cond.fieldLink RX3 21 "SignForms$Stream" "lengths" "[I", Cond.fieldLink RX3 24 "SignForms$Stream" "replaced" "[I", Cond.methodLink RX3 108 yX3_meetSubpart, Cond.instanceMethod yX3_meetSubpart]
def wsX3_tellParts_r5 : List Cond := [Cond.selects RX3 yX3_meetSubpart yX3_meetSubpart, Cond.code yX3_meetSubpart cX3_meetSubpart 1 none, Cond.fieldLink RX3 50 "SignForms$Stream" "subparts" "I", Cond.fieldLink RX3 53 "SignForms$Stream" "firstSubpart" "I", Cond.fieldLink RX3 38 "SignForms$Stream" "policy" "I", Cond.constant RX3 111 (65533)]
def wsX3_tellParts : List Cond := .code yX3_tellParts cX3_tellParts 2 none :: ((wsX3_tellParts_r1 ++ (wsX3_tellParts_r2 ++ (wsX3_tellParts_r3 ++ (wsX3_tellParts_r4 ++ wsX3_tellParts_r5)))) ++ wsX30 ++ wsX20)
def wsX3_decide_r1 : List Cond := [Cond.fieldLink RX3 34 "SignForms$Stream" "form" "I", Cond.methodLink RX3 66 yX3_findForm, Cond.instanceMethod yX3_findForm, Cond.selects RX3 yX3_findForm yX3_findForm, Cond.initialized RX3, Cond.code yX3_findForm cX3_findForm 3 none, Cond.fieldLink RX3 72 "SignForms$Stream" "MARK_FORMS" "[I", Cond.fieldLink RX3 75 "SignForms$Stream" "MARK_LENGTHS" "[I", Cond.fieldLink RX3 41 "SignForms$Stream" "came" "I", Cond.methodLink RX3 78 Lib.Math.min.name, Cond.static Lib.Math.min.name, Cond.initialized "java/lang/Math", Cond.code Lib.Math.min.name Lib.Math.min.code 2 (some .int), Cond.fieldLink RX3 59 "SignForms$Stream" "marked" "Z", Cond.fieldLink RX3 44 "SignForms$Stream" "decided" "I", Cond.fieldLink RX3 63 "SignForms$Stream" "ended" "Z", Cond.methodLink RX3 84 yX3_agrees, Cond.instanceMethod yX3_agrees, Cond.selects RX3 yX3_agrees yX3_agrees, Cond.code yX3_agrees cX3_agrees 4 (some .boolean), Cond.fieldLink RX3 9 "SignForms$Stream" "bytes" "[I", Cond.fieldLink RX3 88 "SignForms$Stream" "MARK_BYTES" "[I", Cond.methodLink RX3 69 yX3_tellParts, Cond.instanceMethod yX3_tellParts]
def wsX3_decide_r2 : List Cond := [Cond.selects RX3 yX3_tellParts yX3_tellParts, Cond.code yX3_tellParts cX3_tellParts 2 none, Cond.fieldLink RX3 56 "SignForms$Stream" "brokenAt" "I", Cond.fieldLink RX3 30 "SignForms$Stream" "part" "LSignForms$Part;", Cond.fieldLink RX3 95 "SignForms$Part" "length" "I", Cond.fieldLink RX3 98 "SignForms$Part" "isSign" "Z", Cond.fieldLink RX3 101 "SignForms$Part" "sign" "I", Cond.methodLink RX3 91 yX2_look, Cond.instanceMethod yX2_look, Cond.selects RX2 yX2_look yX2_look, Cond.initialized RX2, Cond.code yX2_look cX2_look 6 none, Cond.fieldLink RX2 24 "SignForms$Part" "length" "I", Cond.methodLink RX2 9 yX2_tellNothing, Cond.instanceMethod yX2_tellNothing, Cond.selects RX2 yX2_tellNothing yX2_tellNothing, Cond.code yX2_tellNothing cX2_tellNothing 1 none, Cond.fieldLink RX2 36 "SignForms$Part" "isSign" "Z", Cond.fieldLink RX2 40 "SignForms$Part" "sign" "I", Cond.methodLink RX2 14 yX2_lookAtBytes, Cond.instanceMethod yX2_lookAtBytes, Cond.selects RX2 yX2_lookAtBytes yX2_lookAtBytes, Cond.code yX2_lookAtBytes cX2_lookAtBytes 12 none, Cond.methodLink RX2 48 yX2_neededBy]
def wsX3_decide_r3 : List Cond := [Cond.static yX2_neededBy, Cond.code yX2_neededBy cX2_neededBy 2 (some .int), Cond.methodLink RX2 32 yX2_tellSubpart, Cond.instanceMethod yX2_tellSubpart, Cond.selects RX2 yX2_tellSubpart yX2_tellSubpart, Cond.code yX2_tellSubpart cX2_tellSubpart 2 none, Cond.methodLink RX2 52 yX2_leastBehind, Cond.static yX2_leastBehind, Cond.code yX2_leastBehind cX2_leastBehind 1 (some .int), Cond.methodLink RX2 56 yX2_mostBehind, Cond.static yX2_mostBehind, Cond.code yX2_mostBehind cX2_mostBehind 2 (some .int), Cond.methodLink RX2 59 yX0_isFirst, Cond.static yX0_isFirst, Cond.initialized RX0, Cond.code yX0_isFirst cX0_isFirst 1 (some .boolean), Cond.constant RX0 9 (55296), Cond.constant RX0 10 (56319), Cond.methodLink RX2 65 yX2_lookAtSecondHalf, Cond.instanceMethod yX2_lookAtSecondHalf, Cond.selects RX2 yX2_lookAtSecondHalf yX2_lookAtSecondHalf, Cond.code yX2_lookAtSecondHalf cX2_lookAtSecondHalf 9 none, Cond.fieldLink RX2 73 "SignForms$Part" "SECOND_HALF_LEAST" "[I", Cond.fieldLink RX2 77 "SignForms$Part" "SECOND_HALF_MOST" "[I"]
def wsX3_decide_r4 : List Cond := [Cond.constant RX2 80 (65535), Cond.methodLink RX2 81 yX0_joined, Cond.static yX0_joined, Cond.code yX0_joined cX0_joined 2 (some .int), Cond.constant RX0 13 (65536), Cond.constant RX0 11 (56320), Cond.methodLink RX2 69 yX2_tellSign, Cond.instanceMethod yX2_tellSign, Cond.selects RX2 yX2_tellSign yX2_tellSign, Cond.code yX2_tellSign cX2_tellSign 3 none, Cond.methodLink RX2 18 yX2_lookAtPairs, Cond.instanceMethod yX2_lookAtPairs, Cond.selects RX2 yX2_lookAtPairs yX2_lookAtPairs, Cond.code yX2_lookAtPairs cX2_lookAtPairs 7 none, Cond.methodLink RX2 84 yX2_unit, Cond.static yX2_unit, Cond.code yX2_unit cX2_unit 7 (some .int), Cond.methodLink RX2 88 yX0_isSecond, Cond.static yX0_isSecond, Cond.code yX0_isSecond cX0_isSecond 1 (some .boolean), Cond.constant RX0 12 (57343), Cond.methodLink RX2 21 yX2_lookAtFour, Cond.instanceMethod yX2_lookAtFour, Cond.selects RX2 yX2_lookAtFour yX2_lookAtFour]
def wsX3_decide_r5 : List Cond := [Cond.code yX2_lookAtFour cX2_lookAtFour 7 none, Cond.constant RX2 91 (1114111), Cond.methodLink RX2 28 yX2_cutLength, Cond.static yX2_cutLength, Cond.code yX2_cutLength cX2_cutLength 3 (some .int), Cond.methodLink RX2 43 Lib.Math.min.name, Cond.methodLink RX3 104 yX3_addSign, Cond.instanceMethod yX3_addSign, Cond.selects RX3 yX3_addSign yX3_addSign, Cond.code yX3_addSign cX3_addSign 3 none, Cond.fieldLink RX3 47 "SignForms$Stream" "signCount" "I", Cond.fieldLink RX3 15 "SignForms$Stream" "signs" "[I", Cond.fieldLink RX3 18 "SignForms$Stream" "places" "[I", Cond.fieldLink RX3 21 "SignForms$Stream" "lengths" "[I", Cond.fieldLink RX3 24 "SignForms$Stream" "replaced" "[I", Cond.methodLink RX3 108 yX3_meetSubpart, Cond.instanceMethod yX3_meetSubpart, Cond.selects RX3 yX3_meetSubpart yX3_meetSubpart, Cond.code yX3_meetSubpart cX3_meetSubpart 1 none, Cond.fieldLink RX3 50 "SignForms$Stream" "subparts" "I", Cond.fieldLink RX3 53 "SignForms$Stream" "firstSubpart" "I", Cond.fieldLink RX3 38 "SignForms$Stream" "policy" "I", Cond.constant RX3 111 (65533)]
def wsX3_decide : List Cond := .code yX3_decide cX3_decide 1 none :: ((wsX3_decide_r1 ++ (wsX3_decide_r2 ++ (wsX3_decide_r3 ++ (wsX3_decide_r4 ++ wsX3_decide_r5)))) ++ wsX30 ++ wsX20)
def wsX3_fact : List Cond := .code yX3_fact cX3_fact 2 (some .int) :: ([.fieldLink RX3 34 "SignForms$Stream" "form" "I", .fieldLink RX3 41 "SignForms$Stream" "came" "I", .fieldLink RX3 47 "SignForms$Stream" "signCount" "I", .fieldLink RX3 50 "SignForms$Stream" "subparts" "I", .fieldLink RX3 44 "SignForms$Stream" "decided" "I", .fieldLink RX3 63 "SignForms$Stream" "ended" "Z", .fieldLink RX3 56 "SignForms$Stream" "brokenAt" "I", .fieldLink RX3 59 "SignForms$Stream" "marked" "Z", .fieldLink RX3 53 "SignForms$Stream" "firstSubpart" "I"] ++ wsX30)
def wsX3_hasSign : List Cond := .code yX3_hasSign cX3_hasSign 2 (some .boolean) :: ([.fieldLink RX3 47 "SignForms$Stream" "signCount" "I"] ++ wsX30)
def wsX3_signOver : List Cond := .code yX3_signOver cX3_signOver 3 (some .int) :: ([.fieldLink RX3 47 "SignForms$Stream" "signCount" "I", .fieldLink RX3 18 "SignForms$Stream" "places" "[I", .fieldLink RX3 21 "SignForms$Stream" "lengths" "[I"] ++ wsX30)
def wsX3_bytesInForm : List Cond := .code yX3_bytesInForm cX3_bytesInForm 6 (some .int) :: ([.fieldLink RX3 15 "SignForms$Stream" "signs" "[I", .static yX4_bytesIn, .initialized RX4, .code yX4_bytesIn cX4_bytesIn 2 (some .int), .constant RX4 133 (65536), .methodLink RX4 145 yX4_bytesBelowHalved, .static yX4_bytesBelowHalved, .code yX4_bytesBelowHalved cX4_bytesBelowHalved 1 (some .int)] ++ wsX30)
def wsX3_countAmong : List Cond := .code yX3_countAmong cX3_countAmong 5 (some .int) :: ([.fieldLink RX3 47 "SignForms$Stream" "signCount" "I", .fieldLink RX3 15 "SignForms$Stream" "signs" "[I"] ++ wsX30)
def wsX4_init : List Cond := .code yX4_init cX4_init 1 none :: ([.methodLink RX4 3 objectInit, .instanceMethod objectInit, .code objectInit ⟨#[0xb1]⟩ 1 none, .classLink RX4 9 RX3, .fieldLink RX4 11 "SignForms" "streams" "[LSignForms$Stream;", .classLink RX4 15 RX1, .instantiable RX1 2, .initialized RX1, .fieldLink RX4 18 "SignForms" "outRow" "LSignForms$OutRow;", .classLink RX4 22 RX2, .instantiable RX2 3, .initialized RX2, .fieldLink RX4 25 "SignForms" "part" "LSignForms$Part;", .methodLink RX4 17 yX1_init, .instanceMethod yX1_init, .code yX1_init cX1_init 1 none, .methodLink RX1 3 objectInit, .arrayClass .int, .fieldLink RX1 9 "SignForms$OutRow" "bytes" "[I", .fieldLink RX1 15 "SignForms$OutRow" "count" "I", .instanceMethod yX2_init, .code yX2_init cX2_init 1 none, .methodLink RX2 3 objectInit] ++ wsX40 ++ wsX10 ++ wsX20)
def wsX4_isStream : List Cond := .code yX4_isStream cX4_isStream 2 (some .boolean) :: ([.fieldLink RX4 11 "SignForms" "streams" "[LSignForms$Stream;"] ++ wsX40)
def wsX4_open_r1 : List Cond := [Cond.fieldLink RX4 11 "SignForms" "streams" "[LSignForms$Stream;", Cond.classLink RX4 9 RX3, Cond.instantiable RX3 16, Cond.initialized RX3, Cond.methodLink RX4 29 yX4_isStream, Cond.instanceMethod yX4_isStream, Cond.selects RX4 yX4_isStream yX4_isStream, Cond.initialized RX4, Cond.code yX4_isStream cX4_isStream 2 (some .boolean), Cond.methodLink RX4 33 yX3_init, Cond.instanceMethod yX3_init, Cond.code yX3_init cX3_init 1 none, Cond.methodLink RX3 3 objectInit, Cond.instanceMethod objectInit, Cond.code objectInit ⟨#[0xb1]⟩ 1 none, Cond.arrayClass .int, Cond.fieldLink RX3 9 "SignForms$Stream" "bytes" "[I", Cond.fieldLink RX3 15 "SignForms$Stream" "signs" "[I", Cond.fieldLink RX3 18 "SignForms$Stream" "places" "[I", Cond.fieldLink RX3 21 "SignForms$Stream" "lengths" "[I", Cond.fieldLink RX3 24 "SignForms$Stream" "replaced" "[I", Cond.classLink RX3 27 RX2, Cond.instantiable RX2 3, Cond.initialized RX2]
def wsX4_open_r2 : List Cond := [Cond.fieldLink RX3 30 "SignForms$Stream" "part" "LSignForms$Part;", Cond.instanceMethod yX2_init, Cond.code yX2_init cX2_init 1 none, Cond.methodLink RX2 3 objectInit, Cond.methodLink RX4 34 yX3_begin, Cond.instanceMethod yX3_begin, Cond.selects RX3 yX3_begin yX3_begin, Cond.code yX3_begin cX3_begin 3 none, Cond.fieldLink RX3 34 "SignForms$Stream" "form" "I", Cond.fieldLink RX3 38 "SignForms$Stream" "policy" "I", Cond.fieldLink RX3 41 "SignForms$Stream" "came" "I", Cond.fieldLink RX3 44 "SignForms$Stream" "decided" "I", Cond.fieldLink RX3 47 "SignForms$Stream" "signCount" "I", Cond.fieldLink RX3 50 "SignForms$Stream" "subparts" "I", Cond.fieldLink RX3 53 "SignForms$Stream" "firstSubpart" "I", Cond.fieldLink RX3 56 "SignForms$Stream" "brokenAt" "I", Cond.fieldLink RX3 59 "SignForms$Stream" "marked" "Z", Cond.fieldLink RX3 63 "SignForms$Stream" "ended" "Z"]
def wsX4_open : List Cond := .code yX4_open cX4_open 5 (some .boolean) :: ((wsX4_open_r1 ++ wsX4_open_r2) ++ wsX40 ++ wsX30 ++ wsX20)
def wsX4_put_r1 : List Cond := [Cond.fieldLink RX4 11 "SignForms" "streams" "[LSignForms$Stream;", Cond.fieldLink RX4 38 "SignForms$Stream" "ended" "Z", Cond.fieldLink RX4 52 "SignForms$Stream" "signCount" "I", Cond.methodLink RX4 29 yX4_isStream, Cond.instanceMethod yX4_isStream, Cond.selects RX4 yX4_isStream yX4_isStream, Cond.initialized RX4, Cond.code yX4_isStream cX4_isStream 2 (some .boolean), Cond.methodLink RX4 42 yX3_hasRoomFor, Cond.instanceMethod yX3_hasRoomFor, Cond.selects RX3 yX3_hasRoomFor yX3_hasRoomFor, Cond.initialized RX3, Cond.code yX3_hasRoomFor cX3_hasRoomFor 2 (some .boolean), Cond.fieldLink RX3 9 "SignForms$Stream" "bytes" "[I", Cond.fieldLink RX3 41 "SignForms$Stream" "came" "I", Cond.methodLink RX4 45 yX3_take, Cond.instanceMethod yX3_take, Cond.selects RX3 yX3_take yX3_take, Cond.code yX3_take cX3_take 2 none, Cond.methodLink RX4 49 yX3_decide, Cond.instanceMethod yX3_decide, Cond.selects RX3 yX3_decide yX3_decide, Cond.code yX3_decide cX3_decide 1 none, Cond.fieldLink RX3 34 "SignForms$Stream" "form" "I"]
def wsX4_put_r2 : List Cond := [Cond.methodLink RX3 66 yX3_findForm, Cond.instanceMethod yX3_findForm, Cond.selects RX3 yX3_findForm yX3_findForm, Cond.code yX3_findForm cX3_findForm 3 none, Cond.fieldLink RX3 72 "SignForms$Stream" "MARK_FORMS" "[I", Cond.fieldLink RX3 75 "SignForms$Stream" "MARK_LENGTHS" "[I", Cond.methodLink RX3 78 Lib.Math.min.name, Cond.static Lib.Math.min.name, Cond.initialized "java/lang/Math", Cond.code Lib.Math.min.name Lib.Math.min.code 2 (some .int), Cond.fieldLink RX3 59 "SignForms$Stream" "marked" "Z", Cond.fieldLink RX3 44 "SignForms$Stream" "decided" "I", Cond.fieldLink RX3 63 "SignForms$Stream" "ended" "Z", Cond.methodLink RX3 84 yX3_agrees, Cond.instanceMethod yX3_agrees, Cond.selects RX3 yX3_agrees yX3_agrees, Cond.code yX3_agrees cX3_agrees 4 (some .boolean), Cond.fieldLink RX3 88 "SignForms$Stream" "MARK_BYTES" "[I", Cond.methodLink RX3 69 yX3_tellParts, Cond.instanceMethod yX3_tellParts, Cond.selects RX3 yX3_tellParts yX3_tellParts, Cond.code yX3_tellParts cX3_tellParts 2 none, Cond.fieldLink RX3 56 "SignForms$Stream" "brokenAt" "I", Cond.fieldLink RX3 30 "SignForms$Stream" "part" "LSignForms$Part;"]
def wsX4_put_r3 : List Cond := [Cond.fieldLink RX3 95 "SignForms$Part" "length" "I", Cond.fieldLink RX3 98 "SignForms$Part" "isSign" "Z", Cond.fieldLink RX3 101 "SignForms$Part" "sign" "I", Cond.methodLink RX3 91 yX2_look, Cond.instanceMethod yX2_look, Cond.selects RX2 yX2_look yX2_look, Cond.initialized RX2, Cond.code yX2_look cX2_look 6 none, Cond.fieldLink RX2 24 "SignForms$Part" "length" "I", Cond.methodLink RX2 9 yX2_tellNothing, Cond.instanceMethod yX2_tellNothing, Cond.selects RX2 yX2_tellNothing yX2_tellNothing, Cond.code yX2_tellNothing cX2_tellNothing 1 none, Cond.fieldLink RX2 36 "SignForms$Part" "isSign" "Z", Cond.fieldLink RX2 40 "SignForms$Part" "sign" "I", Cond.methodLink RX2 14 yX2_lookAtBytes, Cond.instanceMethod yX2_lookAtBytes, Cond.selects RX2 yX2_lookAtBytes yX2_lookAtBytes, Cond.code yX2_lookAtBytes cX2_lookAtBytes 12 none, Cond.methodLink RX2 48 yX2_neededBy, Cond.static yX2_neededBy, Cond.code yX2_neededBy cX2_neededBy 2 (some .int), Cond.methodLink RX2 32 yX2_tellSubpart, Cond.instanceMethod yX2_tellSubpart]
def wsX4_put_r4 : List Cond := [Cond.selects RX2 yX2_tellSubpart yX2_tellSubpart, Cond.code yX2_tellSubpart cX2_tellSubpart 2 none, Cond.methodLink RX2 52 yX2_leastBehind, Cond.static yX2_leastBehind, Cond.code yX2_leastBehind cX2_leastBehind 1 (some .int), Cond.methodLink RX2 56 yX2_mostBehind, Cond.static yX2_mostBehind, Cond.code yX2_mostBehind cX2_mostBehind 2 (some .int), Cond.methodLink RX2 59 yX0_isFirst, Cond.static yX0_isFirst, Cond.initialized RX0, Cond.code yX0_isFirst cX0_isFirst 1 (some .boolean), Cond.constant RX0 9 (55296), Cond.constant RX0 10 (56319), Cond.methodLink RX2 65 yX2_lookAtSecondHalf, Cond.instanceMethod yX2_lookAtSecondHalf, Cond.selects RX2 yX2_lookAtSecondHalf yX2_lookAtSecondHalf, Cond.code yX2_lookAtSecondHalf cX2_lookAtSecondHalf 9 none, Cond.fieldLink RX2 73 "SignForms$Part" "SECOND_HALF_LEAST" "[I", Cond.fieldLink RX2 77 "SignForms$Part" "SECOND_HALF_MOST" "[I", Cond.constant RX2 80 (65535), Cond.methodLink RX2 81 yX0_joined, Cond.static yX0_joined, Cond.code yX0_joined cX0_joined 2 (some .int)]
def wsX4_put_r5 : List Cond := [Cond.constant RX0 13 (65536), Cond.constant RX0 11 (56320), Cond.methodLink RX2 69 yX2_tellSign, Cond.instanceMethod yX2_tellSign, Cond.selects RX2 yX2_tellSign yX2_tellSign, Cond.code yX2_tellSign cX2_tellSign 3 none, Cond.methodLink RX2 18 yX2_lookAtPairs, Cond.instanceMethod yX2_lookAtPairs, Cond.selects RX2 yX2_lookAtPairs yX2_lookAtPairs, Cond.code yX2_lookAtPairs cX2_lookAtPairs 7 none, Cond.methodLink RX2 84 yX2_unit, Cond.static yX2_unit, Cond.code yX2_unit cX2_unit 7 (some .int), Cond.methodLink RX2 88 yX0_isSecond, Cond.static yX0_isSecond, Cond.code yX0_isSecond cX0_isSecond 1 (some .boolean), Cond.constant RX0 12 (57343), Cond.methodLink RX2 21 yX2_lookAtFour, Cond.instanceMethod yX2_lookAtFour, Cond.selects RX2 yX2_lookAtFour yX2_lookAtFour, Cond.code yX2_lookAtFour cX2_lookAtFour 7 none, Cond.constant RX2 91 (1114111), Cond.methodLink RX2 28 yX2_cutLength, Cond.static yX2_cutLength]
def wsX4_put_r6 : List Cond := [Cond.code yX2_cutLength cX2_cutLength 3 (some .int), Cond.methodLink RX2 43 Lib.Math.min.name, Cond.methodLink RX3 104 yX3_addSign, Cond.instanceMethod yX3_addSign, Cond.selects RX3 yX3_addSign yX3_addSign, Cond.code yX3_addSign cX3_addSign 3 none, Cond.fieldLink RX3 47 "SignForms$Stream" "signCount" "I", Cond.fieldLink RX3 15 "SignForms$Stream" "signs" "[I", Cond.fieldLink RX3 18 "SignForms$Stream" "places" "[I", Cond.fieldLink RX3 21 "SignForms$Stream" "lengths" "[I", Cond.fieldLink RX3 24 "SignForms$Stream" "replaced" "[I", Cond.methodLink RX3 108 yX3_meetSubpart, Cond.instanceMethod yX3_meetSubpart, Cond.selects RX3 yX3_meetSubpart yX3_meetSubpart, Cond.code yX3_meetSubpart cX3_meetSubpart 1 none, Cond.fieldLink RX3 50 "SignForms$Stream" "subparts" "I", Cond.fieldLink RX3 53 "SignForms$Stream" "firstSubpart" "I", Cond.fieldLink RX3 38 "SignForms$Stream" "policy" "I", Cond.constant RX3 111 (65533)]
def wsX4_put : List Cond := .code yX4_put cX4_put 7 (some .int) :: ((wsX4_put_r1 ++ (wsX4_put_r2 ++ (wsX4_put_r3 ++ (wsX4_put_r4 ++ (wsX4_put_r5 ++ wsX4_put_r6))))) ++ wsX40 ++ wsX30 ++ wsX20)
def wsX4_pour_r1 : List Cond := [Cond.fieldLink RX4 18 "SignForms" "outRow" "LSignForms$OutRow;", Cond.fieldLink RX4 56 "SignForms$OutRow" "count" "I", Cond.fieldLink RX4 11 "SignForms" "streams" "[LSignForms$Stream;", Cond.fieldLink RX4 38 "SignForms$Stream" "ended" "Z", Cond.methodLink RX4 59 Lib.Math.min.name, Cond.static Lib.Math.min.name, Cond.initialized "java/lang/Math", Cond.code Lib.Math.min.name Lib.Math.min.code 2 (some .int), Cond.methodLink RX4 29 yX4_isStream, Cond.instanceMethod yX4_isStream, Cond.selects RX4 yX4_isStream yX4_isStream, Cond.initialized RX4, Cond.code yX4_isStream cX4_isStream 2 (some .boolean), Cond.methodLink RX4 42 yX3_hasRoomFor, Cond.instanceMethod yX3_hasRoomFor, Cond.selects RX3 yX3_hasRoomFor yX3_hasRoomFor, Cond.initialized RX3, Cond.code yX3_hasRoomFor cX3_hasRoomFor 2 (some .boolean), Cond.fieldLink RX3 9 "SignForms$Stream" "bytes" "[I", Cond.fieldLink RX3 41 "SignForms$Stream" "came" "I", Cond.methodLink RX4 65 yX1_byteAt, Cond.instanceMethod yX1_byteAt, Cond.selects RX1 yX1_byteAt yX1_byteAt, Cond.initialized RX1]
def wsX4_pour_r2 : List Cond := [Cond.code yX1_byteAt cX1_byteAt 2 (some .int), Cond.fieldLink RX1 15 "SignForms$OutRow" "count" "I", Cond.fieldLink RX1 9 "SignForms$OutRow" "bytes" "[I", Cond.methodLink RX4 45 yX3_take, Cond.instanceMethod yX3_take, Cond.selects RX3 yX3_take yX3_take, Cond.code yX3_take cX3_take 2 none, Cond.methodLink RX4 49 yX3_decide, Cond.instanceMethod yX3_decide, Cond.selects RX3 yX3_decide yX3_decide, Cond.code yX3_decide cX3_decide 1 none, Cond.fieldLink RX3 34 "SignForms$Stream" "form" "I", Cond.methodLink RX3 66 yX3_findForm, Cond.instanceMethod yX3_findForm, Cond.selects RX3 yX3_findForm yX3_findForm, Cond.code yX3_findForm cX3_findForm 3 none, Cond.fieldLink RX3 72 "SignForms$Stream" "MARK_FORMS" "[I", Cond.fieldLink RX3 75 "SignForms$Stream" "MARK_LENGTHS" "[I", Cond.methodLink RX3 78 Lib.Math.min.name, Cond.fieldLink RX3 59 "SignForms$Stream" "marked" "Z", Cond.fieldLink RX3 44 "SignForms$Stream" "decided" "I", Cond.fieldLink RX3 63 "SignForms$Stream" "ended" "Z", Cond.methodLink RX3 84 yX3_agrees, Cond.instanceMethod yX3_agrees]
def wsX4_pour_r3 : List Cond := [Cond.selects RX3 yX3_agrees yX3_agrees, Cond.code yX3_agrees cX3_agrees 4 (some .boolean), Cond.fieldLink RX3 88 "SignForms$Stream" "MARK_BYTES" "[I", Cond.methodLink RX3 69 yX3_tellParts, Cond.instanceMethod yX3_tellParts, Cond.selects RX3 yX3_tellParts yX3_tellParts, Cond.code yX3_tellParts cX3_tellParts 2 none, Cond.fieldLink RX3 56 "SignForms$Stream" "brokenAt" "I", Cond.fieldLink RX3 30 "SignForms$Stream" "part" "LSignForms$Part;", Cond.fieldLink RX3 95 "SignForms$Part" "length" "I", Cond.fieldLink RX3 98 "SignForms$Part" "isSign" "Z", Cond.fieldLink RX3 101 "SignForms$Part" "sign" "I", Cond.methodLink RX3 91 yX2_look, Cond.instanceMethod yX2_look, Cond.selects RX2 yX2_look yX2_look, Cond.initialized RX2, Cond.code yX2_look cX2_look 6 none, Cond.fieldLink RX2 24 "SignForms$Part" "length" "I", Cond.methodLink RX2 9 yX2_tellNothing, Cond.instanceMethod yX2_tellNothing, Cond.selects RX2 yX2_tellNothing yX2_tellNothing, Cond.code yX2_tellNothing cX2_tellNothing 1 none, Cond.fieldLink RX2 36 "SignForms$Part" "isSign" "Z", Cond.fieldLink RX2 40 "SignForms$Part" "sign" "I"]
def wsX4_pour_r4 : List Cond := [Cond.methodLink RX2 14 yX2_lookAtBytes, Cond.instanceMethod yX2_lookAtBytes, Cond.selects RX2 yX2_lookAtBytes yX2_lookAtBytes, Cond.code yX2_lookAtBytes cX2_lookAtBytes 12 none, Cond.methodLink RX2 48 yX2_neededBy, Cond.static yX2_neededBy, Cond.code yX2_neededBy cX2_neededBy 2 (some .int), Cond.methodLink RX2 32 yX2_tellSubpart, Cond.instanceMethod yX2_tellSubpart, Cond.selects RX2 yX2_tellSubpart yX2_tellSubpart, Cond.code yX2_tellSubpart cX2_tellSubpart 2 none, Cond.methodLink RX2 52 yX2_leastBehind, Cond.static yX2_leastBehind, Cond.code yX2_leastBehind cX2_leastBehind 1 (some .int), Cond.methodLink RX2 56 yX2_mostBehind, Cond.static yX2_mostBehind, Cond.code yX2_mostBehind cX2_mostBehind 2 (some .int), Cond.methodLink RX2 59 yX0_isFirst, Cond.static yX0_isFirst, Cond.initialized RX0, Cond.code yX0_isFirst cX0_isFirst 1 (some .boolean), Cond.constant RX0 9 (55296), Cond.constant RX0 10 (56319), Cond.methodLink RX2 65 yX2_lookAtSecondHalf]
def wsX4_pour_r5 : List Cond := [Cond.instanceMethod yX2_lookAtSecondHalf, Cond.selects RX2 yX2_lookAtSecondHalf yX2_lookAtSecondHalf, Cond.code yX2_lookAtSecondHalf cX2_lookAtSecondHalf 9 none, Cond.fieldLink RX2 73 "SignForms$Part" "SECOND_HALF_LEAST" "[I", Cond.fieldLink RX2 77 "SignForms$Part" "SECOND_HALF_MOST" "[I", Cond.constant RX2 80 (65535), Cond.methodLink RX2 81 yX0_joined, Cond.static yX0_joined, Cond.code yX0_joined cX0_joined 2 (some .int), Cond.constant RX0 13 (65536), Cond.constant RX0 11 (56320), Cond.methodLink RX2 69 yX2_tellSign, Cond.instanceMethod yX2_tellSign, Cond.selects RX2 yX2_tellSign yX2_tellSign, Cond.code yX2_tellSign cX2_tellSign 3 none, Cond.methodLink RX2 18 yX2_lookAtPairs, Cond.instanceMethod yX2_lookAtPairs, Cond.selects RX2 yX2_lookAtPairs yX2_lookAtPairs, Cond.code yX2_lookAtPairs cX2_lookAtPairs 7 none, Cond.methodLink RX2 84 yX2_unit, Cond.static yX2_unit, Cond.code yX2_unit cX2_unit 7 (some .int), Cond.methodLink RX2 88 yX0_isSecond, Cond.static yX0_isSecond]
def wsX4_pour_r6 : List Cond := [Cond.code yX0_isSecond cX0_isSecond 1 (some .boolean), Cond.constant RX0 12 (57343), Cond.methodLink RX2 21 yX2_lookAtFour, Cond.instanceMethod yX2_lookAtFour, Cond.selects RX2 yX2_lookAtFour yX2_lookAtFour, Cond.code yX2_lookAtFour cX2_lookAtFour 7 none, Cond.constant RX2 91 (1114111), Cond.methodLink RX2 28 yX2_cutLength, Cond.static yX2_cutLength, Cond.code yX2_cutLength cX2_cutLength 3 (some .int), Cond.methodLink RX2 43 Lib.Math.min.name, Cond.methodLink RX3 104 yX3_addSign, Cond.instanceMethod yX3_addSign, Cond.selects RX3 yX3_addSign yX3_addSign, Cond.code yX3_addSign cX3_addSign 3 none, Cond.fieldLink RX3 47 "SignForms$Stream" "signCount" "I", Cond.fieldLink RX3 15 "SignForms$Stream" "signs" "[I", Cond.fieldLink RX3 18 "SignForms$Stream" "places" "[I", Cond.fieldLink RX3 21 "SignForms$Stream" "lengths" "[I", Cond.fieldLink RX3 24 "SignForms$Stream" "replaced" "[I", Cond.methodLink RX3 108 yX3_meetSubpart, Cond.instanceMethod yX3_meetSubpart, Cond.selects RX3 yX3_meetSubpart yX3_meetSubpart, Cond.code yX3_meetSubpart cX3_meetSubpart 1 none]
def wsX4_pour_r7 : List Cond := [Cond.fieldLink RX3 50 "SignForms$Stream" "subparts" "I", Cond.fieldLink RX3 53 "SignForms$Stream" "firstSubpart" "I", Cond.fieldLink RX3 38 "SignForms$Stream" "policy" "I", Cond.constant RX3 111 (65533)]
def wsX4_pour : List Cond := .code yX4_pour cX4_pour 7 (some .int) :: ((wsX4_pour_r1 ++ (wsX4_pour_r2 ++ (wsX4_pour_r3 ++ (wsX4_pour_r4 ++ (wsX4_pour_r5 ++ (wsX4_pour_r6 ++ wsX4_pour_r7)))))) ++ wsX40 ++ wsX10 ++ wsX30 ++ wsX20)
def wsX4_end_r1 : List Cond := [Cond.fieldLink RX4 11 "SignForms" "streams" "[LSignForms$Stream;", Cond.fieldLink RX4 38 "SignForms$Stream" "ended" "Z", Cond.fieldLink RX4 52 "SignForms$Stream" "signCount" "I", Cond.methodLink RX4 29 yX4_isStream, Cond.instanceMethod yX4_isStream, Cond.selects RX4 yX4_isStream yX4_isStream, Cond.initialized RX4, Cond.code yX4_isStream cX4_isStream 2 (some .boolean), Cond.methodLink RX4 49 yX3_decide, Cond.instanceMethod yX3_decide, Cond.selects RX3 yX3_decide yX3_decide, Cond.initialized RX3, Cond.code yX3_decide cX3_decide 1 none, Cond.fieldLink RX3 34 "SignForms$Stream" "form" "I", Cond.methodLink RX3 66 yX3_findForm, Cond.instanceMethod yX3_findForm, Cond.selects RX3 yX3_findForm yX3_findForm, Cond.code yX3_findForm cX3_findForm 3 none, Cond.fieldLink RX3 72 "SignForms$Stream" "MARK_FORMS" "[I", Cond.fieldLink RX3 75 "SignForms$Stream" "MARK_LENGTHS" "[I", Cond.fieldLink RX3 41 "SignForms$Stream" "came" "I", Cond.methodLink RX3 78 Lib.Math.min.name, Cond.static Lib.Math.min.name, Cond.initialized "java/lang/Math"]
def wsX4_end_r2 : List Cond := [Cond.code Lib.Math.min.name Lib.Math.min.code 2 (some .int), Cond.fieldLink RX3 59 "SignForms$Stream" "marked" "Z", Cond.fieldLink RX3 44 "SignForms$Stream" "decided" "I", Cond.fieldLink RX3 63 "SignForms$Stream" "ended" "Z", Cond.methodLink RX3 84 yX3_agrees, Cond.instanceMethod yX3_agrees, Cond.selects RX3 yX3_agrees yX3_agrees, Cond.code yX3_agrees cX3_agrees 4 (some .boolean), Cond.fieldLink RX3 9 "SignForms$Stream" "bytes" "[I", Cond.fieldLink RX3 88 "SignForms$Stream" "MARK_BYTES" "[I", Cond.methodLink RX3 69 yX3_tellParts, Cond.instanceMethod yX3_tellParts, Cond.selects RX3 yX3_tellParts yX3_tellParts, Cond.code yX3_tellParts cX3_tellParts 2 none, Cond.fieldLink RX3 56 "SignForms$Stream" "brokenAt" "I", Cond.fieldLink RX3 30 "SignForms$Stream" "part" "LSignForms$Part;", Cond.fieldLink RX3 95 "SignForms$Part" "length" "I", Cond.fieldLink RX3 98 "SignForms$Part" "isSign" "Z", Cond.fieldLink RX3 101 "SignForms$Part" "sign" "I", Cond.methodLink RX3 91 yX2_look, Cond.instanceMethod yX2_look, Cond.selects RX2 yX2_look yX2_look, Cond.initialized RX2, Cond.code yX2_look cX2_look 6 none]
def wsX4_end_r3 : List Cond := [Cond.fieldLink RX2 24 "SignForms$Part" "length" "I", Cond.methodLink RX2 9 yX2_tellNothing, Cond.instanceMethod yX2_tellNothing, Cond.selects RX2 yX2_tellNothing yX2_tellNothing, Cond.code yX2_tellNothing cX2_tellNothing 1 none, Cond.fieldLink RX2 36 "SignForms$Part" "isSign" "Z", Cond.fieldLink RX2 40 "SignForms$Part" "sign" "I", Cond.methodLink RX2 14 yX2_lookAtBytes, Cond.instanceMethod yX2_lookAtBytes, Cond.selects RX2 yX2_lookAtBytes yX2_lookAtBytes, Cond.code yX2_lookAtBytes cX2_lookAtBytes 12 none, Cond.methodLink RX2 48 yX2_neededBy, Cond.static yX2_neededBy, Cond.code yX2_neededBy cX2_neededBy 2 (some .int), Cond.methodLink RX2 32 yX2_tellSubpart, Cond.instanceMethod yX2_tellSubpart, Cond.selects RX2 yX2_tellSubpart yX2_tellSubpart, Cond.code yX2_tellSubpart cX2_tellSubpart 2 none, Cond.methodLink RX2 52 yX2_leastBehind, Cond.static yX2_leastBehind, Cond.code yX2_leastBehind cX2_leastBehind 1 (some .int), Cond.methodLink RX2 56 yX2_mostBehind, Cond.static yX2_mostBehind, Cond.code yX2_mostBehind cX2_mostBehind 2 (some .int)]
def wsX4_end_r4 : List Cond := [Cond.methodLink RX2 59 yX0_isFirst, Cond.static yX0_isFirst, Cond.initialized RX0, Cond.code yX0_isFirst cX0_isFirst 1 (some .boolean), Cond.constant RX0 9 (55296), Cond.constant RX0 10 (56319), Cond.methodLink RX2 65 yX2_lookAtSecondHalf, Cond.instanceMethod yX2_lookAtSecondHalf, Cond.selects RX2 yX2_lookAtSecondHalf yX2_lookAtSecondHalf, Cond.code yX2_lookAtSecondHalf cX2_lookAtSecondHalf 9 none, Cond.fieldLink RX2 73 "SignForms$Part" "SECOND_HALF_LEAST" "[I", Cond.fieldLink RX2 77 "SignForms$Part" "SECOND_HALF_MOST" "[I", Cond.constant RX2 80 (65535), Cond.methodLink RX2 81 yX0_joined, Cond.static yX0_joined, Cond.code yX0_joined cX0_joined 2 (some .int), Cond.constant RX0 13 (65536), Cond.constant RX0 11 (56320), Cond.methodLink RX2 69 yX2_tellSign, Cond.instanceMethod yX2_tellSign, Cond.selects RX2 yX2_tellSign yX2_tellSign, Cond.code yX2_tellSign cX2_tellSign 3 none, Cond.methodLink RX2 18 yX2_lookAtPairs, Cond.instanceMethod yX2_lookAtPairs]
def wsX4_end_r5 : List Cond := [Cond.selects RX2 yX2_lookAtPairs yX2_lookAtPairs, Cond.code yX2_lookAtPairs cX2_lookAtPairs 7 none, Cond.methodLink RX2 84 yX2_unit, Cond.static yX2_unit, Cond.code yX2_unit cX2_unit 7 (some .int), Cond.methodLink RX2 88 yX0_isSecond, Cond.static yX0_isSecond, Cond.code yX0_isSecond cX0_isSecond 1 (some .boolean), Cond.constant RX0 12 (57343), Cond.methodLink RX2 21 yX2_lookAtFour, Cond.instanceMethod yX2_lookAtFour, Cond.selects RX2 yX2_lookAtFour yX2_lookAtFour, Cond.code yX2_lookAtFour cX2_lookAtFour 7 none, Cond.constant RX2 91 (1114111), Cond.methodLink RX2 28 yX2_cutLength, Cond.static yX2_cutLength, Cond.code yX2_cutLength cX2_cutLength 3 (some .int), Cond.methodLink RX2 43 Lib.Math.min.name, Cond.methodLink RX3 104 yX3_addSign, Cond.instanceMethod yX3_addSign, Cond.selects RX3 yX3_addSign yX3_addSign, Cond.code yX3_addSign cX3_addSign 3 none, Cond.fieldLink RX3 47 "SignForms$Stream" "signCount" "I", Cond.fieldLink RX3 15 "SignForms$Stream" "signs" "[I"]
def wsX4_end_r6 : List Cond := [Cond.fieldLink RX3 18 "SignForms$Stream" "places" "[I", Cond.fieldLink RX3 21 "SignForms$Stream" "lengths" "[I", Cond.fieldLink RX3 24 "SignForms$Stream" "replaced" "[I", Cond.methodLink RX3 108 yX3_meetSubpart, Cond.instanceMethod yX3_meetSubpart, Cond.selects RX3 yX3_meetSubpart yX3_meetSubpart, Cond.code yX3_meetSubpart cX3_meetSubpart 1 none, Cond.fieldLink RX3 50 "SignForms$Stream" "subparts" "I", Cond.fieldLink RX3 53 "SignForms$Stream" "firstSubpart" "I", Cond.fieldLink RX3 38 "SignForms$Stream" "policy" "I", Cond.constant RX3 111 (65533)]
def wsX4_end : List Cond := .code yX4_end cX4_end 3 (some .int) :: ((wsX4_end_r1 ++ (wsX4_end_r2 ++ (wsX4_end_r3 ++ (wsX4_end_r4 ++ (wsX4_end_r5 ++ wsX4_end_r6))))) ++ wsX40 ++ wsX30 ++ wsX20)
def wsX4_about : List Cond := .code yX4_about cX4_about 4 (some .int) :: ([.fieldLink RX4 11 "SignForms" "streams" "[LSignForms$Stream;", .methodLink RX4 29 yX4_isStream, .instanceMethod yX4_isStream, .selects RX4 yX4_isStream yX4_isStream, .initialized RX4, .code yX4_isStream cX4_isStream 2 (some .boolean), .methodLink RX4 69 yX3_fact, .instanceMethod yX3_fact, .selects RX3 yX3_fact yX3_fact, .initialized RX3, .code yX3_fact cX3_fact 2 (some .int), .fieldLink RX3 34 "SignForms$Stream" "form" "I", .fieldLink RX3 41 "SignForms$Stream" "came" "I", .fieldLink RX3 47 "SignForms$Stream" "signCount" "I", .fieldLink RX3 50 "SignForms$Stream" "subparts" "I", .fieldLink RX3 44 "SignForms$Stream" "decided" "I", .fieldLink RX3 63 "SignForms$Stream" "ended" "Z", .fieldLink RX3 56 "SignForms$Stream" "brokenAt" "I", .fieldLink RX3 59 "SignForms$Stream" "marked" "Z", .fieldLink RX3 53 "SignForms$Stream" "firstSubpart" "I"] ++ wsX40 ++ wsX30)
def wsX4_openStream : List Cond := .code yX4_openStream cX4_openStream 2 (some (.object "SignForms$Stream")) :: ([.fieldLink RX4 11 "SignForms" "streams" "[LSignForms$Stream;", .methodLink RX4 29 yX4_isStream, .instanceMethod yX4_isStream, .selects RX4 yX4_isStream yX4_isStream, .initialized RX4, .code yX4_isStream cX4_isStream 2 (some .boolean)] ++ wsX40)
def wsX4_sign : List Cond := .code yX4_sign cX4_sign 4 (some .int) :: ([.fieldLink RX4 79 "SignForms$Stream" "signs" "[I", .methodLink RX4 72 yX4_openStream, .instanceMethod yX4_openStream, .selects RX4 yX4_openStream yX4_openStream, .initialized RX4, .code yX4_openStream cX4_openStream 2 (some (.object "SignForms$Stream")), .fieldLink RX4 11 "SignForms" "streams" "[LSignForms$Stream;", .methodLink RX4 29 yX4_isStream, .instanceMethod yX4_isStream, .selects RX4 yX4_isStream yX4_isStream, .code yX4_isStream cX4_isStream 2 (some .boolean), .methodLink RX4 76 yX3_hasSign, .instanceMethod yX3_hasSign, .selects RX3 yX3_hasSign yX3_hasSign, .initialized RX3, .code yX3_hasSign cX3_hasSign 2 (some .boolean), .fieldLink RX3 47 "SignForms$Stream" "signCount" "I"] ++ wsX30 ++ wsX40)
def wsX4_placed : List Cond := .code yX4_placed cX4_placed 5 (some .int) :: ([.fieldLink RX4 83 "SignForms$Stream" "places" "[I", .fieldLink RX4 86 "SignForms$Stream" "lengths" "[I", .fieldLink RX4 89 "SignForms$Stream" "replaced" "[I", .methodLink RX4 72 yX4_openStream, .instanceMethod yX4_openStream, .selects RX4 yX4_openStream yX4_openStream, .initialized RX4, .code yX4_openStream cX4_openStream 2 (some (.object "SignForms$Stream")), .fieldLink RX4 11 "SignForms" "streams" "[LSignForms$Stream;", .methodLink RX4 29 yX4_isStream, .instanceMethod yX4_isStream, .selects RX4 yX4_isStream yX4_isStream, .code yX4_isStream cX4_isStream 2 (some .boolean), .methodLink RX4 76 yX3_hasSign, .instanceMethod yX3_hasSign, .selects RX3 yX3_hasSign yX3_hasSign, .initialized RX3, .code yX3_hasSign cX3_hasSign 2 (some .boolean), .fieldLink RX3 47 "SignForms$Stream" "signCount" "I"] ++ wsX30 ++ wsX40)
def wsX4_at : List Cond := .code yX4_at cX4_at 4 (some .int) :: ([.methodLink RX4 72 yX4_openStream, .instanceMethod yX4_openStream, .selects RX4 yX4_openStream yX4_openStream, .initialized RX4, .code yX4_openStream cX4_openStream 2 (some (.object "SignForms$Stream")), .fieldLink RX4 11 "SignForms" "streams" "[LSignForms$Stream;", .methodLink RX4 29 yX4_isStream, .instanceMethod yX4_isStream, .selects RX4 yX4_isStream yX4_isStream, .code yX4_isStream cX4_isStream 2 (some .boolean), .methodLink RX4 92 yX3_signOver, .instanceMethod yX3_signOver, .selects RX3 yX3_signOver yX3_signOver, .initialized RX3, .code yX3_signOver cX3_signOver 3 (some .int), .fieldLink RX3 47 "SignForms$Stream" "signCount" "I", .fieldLink RX3 18 "SignForms$Stream" "places" "[I", .fieldLink RX3 21 "SignForms$Stream" "lengths" "[I"] ++ wsX40 ++ wsX30)
def wsX4_isWritable : List Cond := .code yX4_isWritable cX4_isWritable 1 (some .boolean) :: ([])
def wsX4_write_r1 : List Cond := [Cond.fieldLink RX4 11 "SignForms" "streams" "[LSignForms$Stream;", Cond.constant RX4 98 (65279), Cond.fieldLink RX4 52 "SignForms$Stream" "signCount" "I", Cond.fieldLink RX4 18 "SignForms" "outRow" "LSignForms$OutRow;", Cond.fieldLink RX4 56 "SignForms$OutRow" "count" "I", Cond.fieldLink RX4 79 "SignForms$Stream" "signs" "[I", Cond.methodLink RX4 29 yX4_isStream, Cond.instanceMethod yX4_isStream, Cond.selects RX4 yX4_isStream yX4_isStream, Cond.initialized RX4, Cond.code yX4_isStream cX4_isStream 2 (some .boolean), Cond.methodLink RX4 95 yX4_isWritable, Cond.static yX4_isWritable, Cond.code yX4_isWritable cX4_isWritable 1 (some .boolean), Cond.methodLink RX4 99 yX4_bytesIn, Cond.static yX4_bytesIn, Cond.code yX4_bytesIn cX4_bytesIn 2 (some .int), Cond.constant RX4 133 (65536), Cond.methodLink RX4 145 yX4_bytesBelowHalved, Cond.static yX4_bytesBelowHalved, Cond.code yX4_bytesBelowHalved cX4_bytesBelowHalved 1 (some .int), Cond.methodLink RX4 102 yX3_bytesInForm, Cond.instanceMethod yX3_bytesInForm, Cond.selects RX3 yX3_bytesInForm yX3_bytesInForm]
def wsX4_write_r2 : List Cond := [Cond.initialized RX3, Cond.code yX3_bytesInForm cX3_bytesInForm 6 (some .int), Cond.fieldLink RX3 15 "SignForms$Stream" "signs" "[I", Cond.methodLink RX4 106 yX1_addSign, Cond.instanceMethod yX1_addSign, Cond.selects RX1 yX1_addSign yX1_addSign, Cond.initialized RX1, Cond.code yX1_addSign cX1_addSign 4 none, Cond.constant RX1 19 (65536), Cond.methodLink RX1 20 yX0_firstOf, Cond.static yX0_firstOf, Cond.initialized RX0, Cond.code yX0_firstOf cX0_firstOf 1 (some .int), Cond.constant RX0 9 (55296), Cond.constant RX0 13 (65536), Cond.methodLink RX1 26 yX1_addNumber, Cond.instanceMethod yX1_addNumber, Cond.selects RX1 yX1_addNumber yX1_addNumber, Cond.code yX1_addNumber cX1_addNumber 4 none, Cond.methodLink RX1 37 yX1_addBytes, Cond.instanceMethod yX1_addBytes, Cond.selects RX1 yX1_addBytes yX1_addBytes, Cond.code yX1_addBytes cX1_addBytes 4 none, Cond.methodLink RX1 46 yX1_add]
def wsX4_write_r3 : List Cond := [Cond.instanceMethod yX1_add, Cond.selects RX1 yX1_add yX1_add, Cond.code yX1_add cX1_add 2 none, Cond.fieldLink RX1 15 "SignForms$OutRow" "count" "I", Cond.fieldLink RX1 9 "SignForms$OutRow" "bytes" "[I", Cond.methodLink RX1 50 yX1_leadOf, Cond.static yX1_leadOf, Cond.code yX1_leadOf cX1_leadOf 1 (some .int), Cond.methodLink RX1 40 yX1_addLowFirst, Cond.instanceMethod yX1_addLowFirst, Cond.selects RX1 yX1_addLowFirst yX1_addLowFirst, Cond.code yX1_addLowFirst cX1_addLowFirst 4 none, Cond.methodLink RX1 43 yX1_addHighFirst, Cond.instanceMethod yX1_addHighFirst, Cond.selects RX1 yX1_addHighFirst yX1_addHighFirst, Cond.code yX1_addHighFirst cX1_addHighFirst 4 none, Cond.methodLink RX1 30 yX0_secondOf, Cond.static yX0_secondOf, Cond.code yX0_secondOf cX0_secondOf 1 (some .int), Cond.constant RX0 11 (56320)]
def wsX4_write : List Cond := .code yX4_write cX4_write 7 (some .int) :: ((wsX4_write_r1 ++ (wsX4_write_r2 ++ wsX4_write_r3)) ++ wsX40 ++ wsX30 ++ wsX10)
def wsX4_size : List Cond := .code yX4_size cX4_size 6 (some .int) :: ([.fieldLink RX4 11 "SignForms" "streams" "[LSignForms$Stream;", .fieldLink RX4 52 "SignForms$Stream" "signCount" "I", .methodLink RX4 29 yX4_isStream, .instanceMethod yX4_isStream, .selects RX4 yX4_isStream yX4_isStream, .initialized RX4, .code yX4_isStream cX4_isStream 2 (some .boolean), .methodLink RX4 95 yX4_isWritable, .static yX4_isWritable, .code yX4_isWritable cX4_isWritable 1 (some .boolean), .methodLink RX4 102 yX3_bytesInForm, .instanceMethod yX3_bytesInForm, .selects RX3 yX3_bytesInForm yX3_bytesInForm, .initialized RX3, .code yX3_bytesInForm cX3_bytesInForm 6 (some .int), .fieldLink RX3 15 "SignForms$Stream" "signs" "[I", .static yX4_bytesIn, .code yX4_bytesIn cX4_bytesIn 2 (some .int), .constant RX4 133 (65536), .methodLink RX4 145 yX4_bytesBelowHalved, .static yX4_bytesBelowHalved, .code yX4_bytesBelowHalved cX4_bytesBelowHalved 1 (some .int)] ++ wsX40 ++ wsX30)
def wsX4_out : List Cond := .code yX4_out cX4_out 2 (some .int) :: ([.fieldLink RX4 18 "SignForms" "outRow" "LSignForms$OutRow;", .methodLink RX4 65 yX1_byteAt, .instanceMethod yX1_byteAt, .selects RX1 yX1_byteAt yX1_byteAt, .initialized RX1, .code yX1_byteAt cX1_byteAt 2 (some .int), .fieldLink RX1 15 "SignForms$OutRow" "count" "I", .fieldLink RX1 9 "SignForms$OutRow" "bytes" "[I"] ++ wsX40 ++ wsX10)
def wsX4_check_r1 : List Cond := [Cond.fieldLink RX4 18 "SignForms" "outRow" "LSignForms$OutRow;", Cond.fieldLink RX4 56 "SignForms$OutRow" "count" "I", Cond.fieldLink RX4 25 "SignForms" "part" "LSignForms$Part;", Cond.fieldLink RX4 109 "SignForms$OutRow" "bytes" "[I", Cond.fieldLink RX4 116 "SignForms$Part" "isSign" "Z", Cond.fieldLink RX4 119 "SignForms$Part" "length" "I", Cond.methodLink RX4 95 yX4_isWritable, Cond.static yX4_isWritable, Cond.initialized RX4, Cond.code yX4_isWritable cX4_isWritable 1 (some .boolean), Cond.methodLink RX4 112 yX2_look, Cond.instanceMethod yX2_look, Cond.selects RX2 yX2_look yX2_look, Cond.initialized RX2, Cond.code yX2_look cX2_look 6 none, Cond.fieldLink RX2 24 "SignForms$Part" "length" "I", Cond.methodLink RX2 9 yX2_tellNothing, Cond.instanceMethod yX2_tellNothing, Cond.selects RX2 yX2_tellNothing yX2_tellNothing, Cond.code yX2_tellNothing cX2_tellNothing 1 none, Cond.fieldLink RX2 36 "SignForms$Part" "isSign" "Z", Cond.fieldLink RX2 40 "SignForms$Part" "sign" "I", Cond.methodLink RX2 14 yX2_lookAtBytes, Cond.instanceMethod yX2_lookAtBytes]
def wsX4_check_r2 : List Cond := [Cond.selects RX2 yX2_lookAtBytes yX2_lookAtBytes, Cond.code yX2_lookAtBytes cX2_lookAtBytes 12 none, Cond.methodLink RX2 48 yX2_neededBy, Cond.static yX2_neededBy, Cond.code yX2_neededBy cX2_neededBy 2 (some .int), Cond.methodLink RX2 32 yX2_tellSubpart, Cond.instanceMethod yX2_tellSubpart, Cond.selects RX2 yX2_tellSubpart yX2_tellSubpart, Cond.code yX2_tellSubpart cX2_tellSubpart 2 none, Cond.methodLink RX2 52 yX2_leastBehind, Cond.static yX2_leastBehind, Cond.code yX2_leastBehind cX2_leastBehind 1 (some .int), Cond.methodLink RX2 56 yX2_mostBehind, Cond.static yX2_mostBehind, Cond.code yX2_mostBehind cX2_mostBehind 2 (some .int), Cond.methodLink RX2 59 yX0_isFirst, Cond.static yX0_isFirst, Cond.initialized RX0, Cond.code yX0_isFirst cX0_isFirst 1 (some .boolean), Cond.constant RX0 9 (55296), Cond.constant RX0 10 (56319), Cond.methodLink RX2 65 yX2_lookAtSecondHalf, Cond.instanceMethod yX2_lookAtSecondHalf, Cond.selects RX2 yX2_lookAtSecondHalf yX2_lookAtSecondHalf]
def wsX4_check_r3 : List Cond := [Cond.code yX2_lookAtSecondHalf cX2_lookAtSecondHalf 9 none, Cond.fieldLink RX2 73 "SignForms$Part" "SECOND_HALF_LEAST" "[I", Cond.fieldLink RX2 77 "SignForms$Part" "SECOND_HALF_MOST" "[I", Cond.constant RX2 80 (65535), Cond.methodLink RX2 81 yX0_joined, Cond.static yX0_joined, Cond.code yX0_joined cX0_joined 2 (some .int), Cond.constant RX0 13 (65536), Cond.constant RX0 11 (56320), Cond.methodLink RX2 69 yX2_tellSign, Cond.instanceMethod yX2_tellSign, Cond.selects RX2 yX2_tellSign yX2_tellSign, Cond.code yX2_tellSign cX2_tellSign 3 none, Cond.methodLink RX2 18 yX2_lookAtPairs, Cond.instanceMethod yX2_lookAtPairs, Cond.selects RX2 yX2_lookAtPairs yX2_lookAtPairs, Cond.code yX2_lookAtPairs cX2_lookAtPairs 7 none, Cond.methodLink RX2 84 yX2_unit, Cond.static yX2_unit, Cond.code yX2_unit cX2_unit 7 (some .int), Cond.methodLink RX2 88 yX0_isSecond, Cond.static yX0_isSecond, Cond.code yX0_isSecond cX0_isSecond 1 (some .boolean), Cond.constant RX0 12 (57343)]
def wsX4_check_r4 : List Cond := [Cond.methodLink RX2 21 yX2_lookAtFour, Cond.instanceMethod yX2_lookAtFour, Cond.selects RX2 yX2_lookAtFour yX2_lookAtFour, Cond.code yX2_lookAtFour cX2_lookAtFour 7 none, Cond.constant RX2 91 (1114111), Cond.methodLink RX2 28 yX2_cutLength, Cond.static yX2_cutLength, Cond.code yX2_cutLength cX2_cutLength 3 (some .int), Cond.methodLink RX2 43 Lib.Math.min.name, Cond.static Lib.Math.min.name, Cond.initialized "java/lang/Math", Cond.code Lib.Math.min.name Lib.Math.min.code 2 (some .int)]
def wsX4_check : List Cond := .code yX4_check cX4_check 4 (some .int) :: ((wsX4_check_r1 ++ (wsX4_check_r2 ++ (wsX4_check_r3 ++ wsX4_check_r4))) ++ wsX40 ++ wsX10 ++ wsX20)
def wsX4_turned : List Cond := .code yX4_turned cX4_turned 1 (some .int) :: ([])
def wsX4_rank : List Cond := .code yX4_rank cX4_rank 5 (some .long) :: ([.constant RX4 133 (65536), .methodLink RX4 134 yX0_firstOf, .static yX0_firstOf, .initialized RX0, .code yX0_firstOf cX0_firstOf 1 (some .int), .constant RX0 9 (55296), .constant RX0 13 (65536), .methodLink RX4 139 yX0_secondOf, .static yX0_secondOf, .code yX0_secondOf cX0_secondOf 1 (some .int), .constant RX0 11 (56320), .methodLink RX4 142 yX4_turned, .static yX4_turned, .initialized RX4, .code yX4_turned cX4_turned 1 (some .int)])
def wsX4_side : List Cond := .code yX4_side cX4_side 4 (some .int) :: ([])
def wsX4_order_r1 : List Cond := [Cond.fieldLink RX4 11 "SignForms" "streams" "[LSignForms$Stream;", Cond.fieldLink RX4 52 "SignForms$Stream" "signCount" "I", Cond.methodLink RX4 59 Lib.Math.min.name, Cond.static Lib.Math.min.name, Cond.initialized "java/lang/Math", Cond.code Lib.Math.min.name Lib.Math.min.code 2 (some .int), Cond.fieldLink RX4 79 "SignForms$Stream" "signs" "[I", Cond.methodLink RX4 29 yX4_isStream, Cond.instanceMethod yX4_isStream, Cond.selects RX4 yX4_isStream yX4_isStream, Cond.initialized RX4, Cond.code yX4_isStream cX4_isStream 2 (some .boolean), Cond.methodLink RX4 122 yX4_rank, Cond.static yX4_rank, Cond.code yX4_rank cX4_rank 5 (some .long), Cond.constant RX4 133 (65536), Cond.methodLink RX4 134 yX0_firstOf, Cond.static yX0_firstOf, Cond.initialized RX0, Cond.code yX0_firstOf cX0_firstOf 1 (some .int), Cond.constant RX0 9 (55296), Cond.constant RX0 13 (65536), Cond.methodLink RX4 139 yX0_secondOf, Cond.static yX0_secondOf]
def wsX4_order_r2 : List Cond := [Cond.code yX0_secondOf cX0_secondOf 1 (some .int), Cond.constant RX0 11 (56320), Cond.methodLink RX4 142 yX4_turned, Cond.static yX4_turned, Cond.code yX4_turned cX4_turned 1 (some .int), Cond.methodLink RX4 126 yX4_side, Cond.static yX4_side, Cond.code yX4_side cX4_side 4 (some .int)]
def wsX4_order : List Cond := .code yX4_order cX4_order 8 (some .int) :: ((wsX4_order_r1 ++ wsX4_order_r2) ++ wsX40 ++ wsX30)
def wsX4_among : List Cond := .code yX4_among cX4_among 5 (some .int) :: ([.fieldLink RX4 11 "SignForms" "streams" "[LSignForms$Stream;", .methodLink RX4 29 yX4_isStream, .instanceMethod yX4_isStream, .selects RX4 yX4_isStream yX4_isStream, .initialized RX4, .code yX4_isStream cX4_isStream 2 (some .boolean), .methodLink RX4 130 yX3_countAmong, .instanceMethod yX3_countAmong, .selects RX3 yX3_countAmong yX3_countAmong, .initialized RX3, .code yX3_countAmong cX3_countAmong 5 (some .int), .fieldLink RX3 47 "SignForms$Stream" "signCount" "I", .fieldLink RX3 15 "SignForms$Stream" "signs" "[I"] ++ wsX40 ++ wsX30)
def wsX5_init_r1 : List Cond := [Cond.methodLink RX5 1 objectInit, Cond.instanceMethod objectInit, Cond.code objectInit ⟨#[0xb1]⟩ 1 none, Cond.arrayClass .boolean, Cond.fieldLink RX5 7 "SignFormsModel" "isOpen" "[Z", Cond.fieldLink RX5 13 "SignFormsModel" "isEnded" "[Z", Cond.arrayClass .int, Cond.fieldLink RX5 16 "SignFormsModel" "told" "[I", Cond.fieldLink RX5 20 "SignFormsModel" "form" "[I", Cond.fieldLink RX5 23 "SignFormsModel" "policy" "[I", Cond.fieldLink RX5 26 "SignFormsModel" "came" "[I", Cond.fieldLink RX5 29 "SignFormsModel" "many" "[I", Cond.fieldLink RX5 32 "SignFormsModel" "value" "[I", Cond.fieldLink RX5 35 "SignFormsModel" "place" "[I", Cond.fieldLink RX5 38 "SignFormsModel" "length" "[I", Cond.fieldLink RX5 41 "SignFormsModel" "isMade" "[Z", Cond.fieldLink RX5 44 "SignFormsModel" "signs" "[I", Cond.fieldLink RX5 47 "SignFormsModel" "subparts" "[I", Cond.fieldLink RX5 50 "SignFormsModel" "open" "[I", Cond.fieldLink RX5 53 "SignFormsModel" "broken" "[I", Cond.fieldLink RX5 56 "SignFormsModel" "firstSubpart" "[I", Cond.fieldLink RX5 59 "SignFormsModel" "isMarked" "[Z", Cond.fieldLink RX5 62 "SignFormsModel" "out" "[I", Cond.fieldLink RX5 65 "SignFormsModel" "row" "[I"]
def wsX5_init_r2 : List Cond := [Cond.fieldLink RX5 68 "SignFormsModel" "outSize" "I"]
def wsX5_init : List Cond := .code yX5_init cX5_init 1 none :: ((wsX5_init_r1 ++ wsX5_init_r2) ++ wsX50)
def wsX5_isStream : List Cond := .code yX5_isStream cX5_isStream 1 (some .boolean) :: ([])
def wsX5_isForm : List Cond := .code yX5_isForm cX5_isForm 1 (some .boolean) :: ([])
def wsX5_isBetween : List Cond := .code yX5_isBetween cX5_isBetween 3 (some .boolean) :: ([])
def wsX5_part : List Cond := .code yX5_part cX5_part 3 (some .int) :: ([.fieldLink RX5 72 "SignFormsModel" "partLength" "I"] ++ wsX50)
def wsX5_wanted : List Cond := .code yX5_wanted cX5_wanted 5 (some .int) :: ([.fieldLink RX5 65 "SignFormsModel" "row" "[I", .methodLink RX5 92 yX5_isBetween, .static yX5_isBetween, .initialized RX5, .code yX5_isBetween cX5_isBetween 3 (some .boolean)] ++ wsX50)
def wsX5_goesOn : List Cond := .code yX5_goesOn cX5_goesOn 6 (some .boolean) :: ([.fieldLink RX5 65 "SignFormsModel" "row" "[I", .methodLink RX5 92 yX5_isBetween, .static yX5_isBetween, .initialized RX5, .code yX5_isBetween cX5_isBetween 3 (some .boolean)] ++ wsX50)
def wsX5_numberOf3 : List Cond := .code yX5_numberOf3 cX5_numberOf3 2 (some .int) :: ([.fieldLink RX5 65 "SignFormsModel" "row" "[I"] ++ wsX50)
def wsX5_numberOf : List Cond := .code yX5_numberOf cX5_numberOf 5 (some .int) :: ([.constant RX5 101 (65536), .constant RX5 90 (55296), .constant RX5 100 (56320), .fieldLink RX5 65 "SignFormsModel" "row" "[I", .methodLink RX5 113 yX5_numberOf3, .instanceMethod yX5_numberOf3, .selects RX5 yX5_numberOf3 yX5_numberOf3, .initialized RX5, .code yX5_numberOf3 cX5_numberOf3 2 (some .int)] ++ wsX50)
def wsX5_bytesAt_r1 : List Cond := [Cond.fieldLink RX5 86 "SignFormsModel" "partValue" "I", Cond.methodLink RX5 79 yX5_part, Cond.instanceMethod yX5_part, Cond.selects RX5 yX5_part yX5_part, Cond.initialized RX5, Cond.code yX5_part cX5_part 3 (some .int), Cond.fieldLink RX5 72 "SignFormsModel" "partLength" "I", Cond.methodLink RX5 102 yX5_wanted, Cond.instanceMethod yX5_wanted, Cond.selects RX5 yX5_wanted yX5_wanted, Cond.code yX5_wanted cX5_wanted 5 (some .int), Cond.fieldLink RX5 65 "SignFormsModel" "row" "[I", Cond.methodLink RX5 92 yX5_isBetween, Cond.static yX5_isBetween, Cond.code yX5_isBetween cX5_isBetween 3 (some .boolean), Cond.methodLink RX5 106 yX5_goesOn, Cond.instanceMethod yX5_goesOn, Cond.selects RX5 yX5_goesOn yX5_goesOn, Cond.code yX5_goesOn cX5_goesOn 6 (some .boolean), Cond.methodLink RX5 110 yX5_numberOf, Cond.instanceMethod yX5_numberOf, Cond.selects RX5 yX5_numberOf yX5_numberOf, Cond.code yX5_numberOf cX5_numberOf 5 (some .int), Cond.constant RX5 101 (65536)]
def wsX5_bytesAt_r2 : List Cond := [Cond.constant RX5 90 (55296), Cond.constant RX5 100 (56320), Cond.methodLink RX5 113 yX5_numberOf3, Cond.instanceMethod yX5_numberOf3, Cond.selects RX5 yX5_numberOf3 yX5_numberOf3, Cond.code yX5_numberOf3 cX5_numberOf3 2 (some .int)]
def wsX5_bytesAt : List Cond := .code yX5_bytesAt cX5_bytesAt 7 (some .int) :: ((wsX5_bytesAt_r1 ++ wsX5_bytesAt_r2) ++ wsX50)
def wsX5_unitAt : List Cond := .code yX5_unitAt cX5_unitAt 3 (some .int) :: ([.fieldLink RX5 65 "SignFormsModel" "row" "[I"] ++ wsX50)
def wsX5_pairsAt : List Cond := .code yX5_pairsAt cX5_pairsAt 7 (some .int) :: ([.fieldLink RX5 86 "SignFormsModel" "partValue" "I", .constant RX5 90 (55296), .constant RX5 91 (57343), .constant RX5 100 (56320), .constant RX5 101 (65536), .methodLink RX5 92 yX5_isBetween, .static yX5_isBetween, .initialized RX5, .code yX5_isBetween cX5_isBetween 3 (some .boolean), .methodLink RX5 79 yX5_part, .instanceMethod yX5_part, .selects RX5 yX5_part yX5_part, .code yX5_part cX5_part 3 (some .int), .fieldLink RX5 72 "SignFormsModel" "partLength" "I", .methodLink RX5 83 yX5_unitAt, .instanceMethod yX5_unitAt, .selects RX5 yX5_unitAt yX5_unitAt, .code yX5_unitAt cX5_unitAt 3 (some .int), .fieldLink RX5 65 "SignFormsModel" "row" "[I"] ++ wsX50)
def wsX5_partAt_r1 : List Cond := [Cond.fieldLink RX5 86 "SignFormsModel" "partValue" "I", Cond.constant RX5 89 (1114111), Cond.constant RX5 90 (55296), Cond.constant RX5 91 (57343), Cond.methodLink RX5 75 yX5_bytesAt, Cond.instanceMethod yX5_bytesAt, Cond.selects RX5 yX5_bytesAt yX5_bytesAt, Cond.initialized RX5, Cond.code yX5_bytesAt cX5_bytesAt 7 (some .int), Cond.methodLink RX5 79 yX5_part, Cond.instanceMethod yX5_part, Cond.selects RX5 yX5_part yX5_part, Cond.code yX5_part cX5_part 3 (some .int), Cond.fieldLink RX5 72 "SignFormsModel" "partLength" "I", Cond.methodLink RX5 102 yX5_wanted, Cond.instanceMethod yX5_wanted, Cond.selects RX5 yX5_wanted yX5_wanted, Cond.code yX5_wanted cX5_wanted 5 (some .int), Cond.fieldLink RX5 65 "SignFormsModel" "row" "[I", Cond.methodLink RX5 92 yX5_isBetween, Cond.static yX5_isBetween, Cond.code yX5_isBetween cX5_isBetween 3 (some .boolean), Cond.methodLink RX5 106 yX5_goesOn, Cond.instanceMethod yX5_goesOn]
def wsX5_partAt_r2 : List Cond := [Cond.selects RX5 yX5_goesOn yX5_goesOn, Cond.code yX5_goesOn cX5_goesOn 6 (some .boolean), Cond.methodLink RX5 110 yX5_numberOf, Cond.instanceMethod yX5_numberOf, Cond.selects RX5 yX5_numberOf yX5_numberOf, Cond.code yX5_numberOf cX5_numberOf 5 (some .int), Cond.constant RX5 101 (65536), Cond.constant RX5 100 (56320), Cond.methodLink RX5 113 yX5_numberOf3, Cond.instanceMethod yX5_numberOf3, Cond.selects RX5 yX5_numberOf3 yX5_numberOf3, Cond.code yX5_numberOf3 cX5_numberOf3 2 (some .int), Cond.methodLink RX5 83 yX5_unitAt, Cond.instanceMethod yX5_unitAt, Cond.selects RX5 yX5_unitAt yX5_unitAt, Cond.code yX5_unitAt cX5_unitAt 3 (some .int), Cond.methodLink RX5 96 yX5_pairsAt, Cond.instanceMethod yX5_pairsAt, Cond.selects RX5 yX5_pairsAt yX5_pairsAt, Cond.code yX5_pairsAt cX5_pairsAt 7 (some .int)]
def wsX5_partAt : List Cond := .code yX5_partAt cX5_partAt 9 (some .int) :: ((wsX5_partAt_r1 ++ wsX5_partAt_r2) ++ wsX50)
def wsX5_isBegun : List Cond := .code yX5_isBegun cX5_isBegun 10 (some .boolean) :: ([.fieldLink RX5 65 "SignFormsModel" "row" "[I"] ++ wsX50)
def wsX5_findForm : List Cond := .code yX5_findForm cX5_findForm 5 (some .int) :: ([.fieldLink RX5 86 "SignFormsModel" "partValue" "I", .methodLink RX5 117 yX5_isBegun, .instanceMethod yX5_isBegun, .selects RX5 yX5_isBegun yX5_isBegun, .initialized RX5, .code yX5_isBegun cX5_isBegun 10 (some .boolean), .fieldLink RX5 65 "SignFormsModel" "row" "[I"] ++ wsX50)
def wsX5_add : List Cond := .code yX5_add cX5_add 7 none :: ([.fieldLink RX5 44 "SignFormsModel" "signs" "[I", .fieldLink RX5 32 "SignFormsModel" "value" "[I", .fieldLink RX5 35 "SignFormsModel" "place" "[I", .fieldLink RX5 38 "SignFormsModel" "length" "[I", .fieldLink RX5 41 "SignFormsModel" "isMade" "[Z"] ++ wsX50)
def wsX5_findAll_r1 : List Cond := [Cond.fieldLink RX5 29 "SignFormsModel" "many" "[I", Cond.fieldLink RX5 65 "SignFormsModel" "row" "[I", Cond.fieldLink RX5 26 "SignFormsModel" "came" "[I", Cond.fieldLink RX5 44 "SignFormsModel" "signs" "[I", Cond.fieldLink RX5 47 "SignFormsModel" "subparts" "[I", Cond.fieldLink RX5 53 "SignFormsModel" "broken" "[I", Cond.fieldLink RX5 56 "SignFormsModel" "firstSubpart" "[I", Cond.fieldLink RX5 59 "SignFormsModel" "isMarked" "[Z", Cond.fieldLink RX5 50 "SignFormsModel" "open" "[I", Cond.fieldLink RX5 20 "SignFormsModel" "form" "[I", Cond.fieldLink RX5 16 "SignFormsModel" "told" "[I", Cond.fieldLink RX5 13 "SignFormsModel" "isEnded" "[Z", Cond.fieldLink RX5 86 "SignFormsModel" "partValue" "I", Cond.fieldLink RX5 72 "SignFormsModel" "partLength" "I", Cond.fieldLink RX5 23 "SignFormsModel" "policy" "[I", Cond.constant RX5 133 (65533), Cond.methodLink RX5 121 yX5_findForm, Cond.instanceMethod yX5_findForm, Cond.selects RX5 yX5_findForm yX5_findForm, Cond.initialized RX5, Cond.code yX5_findForm cX5_findForm 5 (some .int), Cond.methodLink RX5 117 yX5_isBegun, Cond.instanceMethod yX5_isBegun, Cond.selects RX5 yX5_isBegun yX5_isBegun]
def wsX5_findAll_r2 : List Cond := [Cond.code yX5_isBegun cX5_isBegun 10 (some .boolean), Cond.methodLink RX5 125 yX5_partAt, Cond.instanceMethod yX5_partAt, Cond.selects RX5 yX5_partAt yX5_partAt, Cond.code yX5_partAt cX5_partAt 9 (some .int), Cond.constant RX5 89 (1114111), Cond.constant RX5 90 (55296), Cond.constant RX5 91 (57343), Cond.methodLink RX5 75 yX5_bytesAt, Cond.instanceMethod yX5_bytesAt, Cond.selects RX5 yX5_bytesAt yX5_bytesAt, Cond.code yX5_bytesAt cX5_bytesAt 7 (some .int), Cond.methodLink RX5 79 yX5_part, Cond.instanceMethod yX5_part, Cond.selects RX5 yX5_part yX5_part, Cond.code yX5_part cX5_part 3 (some .int), Cond.methodLink RX5 102 yX5_wanted, Cond.instanceMethod yX5_wanted, Cond.selects RX5 yX5_wanted yX5_wanted, Cond.code yX5_wanted cX5_wanted 5 (some .int), Cond.methodLink RX5 92 yX5_isBetween, Cond.static yX5_isBetween, Cond.code yX5_isBetween cX5_isBetween 3 (some .boolean), Cond.methodLink RX5 106 yX5_goesOn]
def wsX5_findAll_r3 : List Cond := [Cond.instanceMethod yX5_goesOn, Cond.selects RX5 yX5_goesOn yX5_goesOn, Cond.code yX5_goesOn cX5_goesOn 6 (some .boolean), Cond.methodLink RX5 110 yX5_numberOf, Cond.instanceMethod yX5_numberOf, Cond.selects RX5 yX5_numberOf yX5_numberOf, Cond.code yX5_numberOf cX5_numberOf 5 (some .int), Cond.constant RX5 101 (65536), Cond.constant RX5 100 (56320), Cond.methodLink RX5 113 yX5_numberOf3, Cond.instanceMethod yX5_numberOf3, Cond.selects RX5 yX5_numberOf3 yX5_numberOf3, Cond.code yX5_numberOf3 cX5_numberOf3 2 (some .int), Cond.methodLink RX5 83 yX5_unitAt, Cond.instanceMethod yX5_unitAt, Cond.selects RX5 yX5_unitAt yX5_unitAt, Cond.code yX5_unitAt cX5_unitAt 3 (some .int), Cond.methodLink RX5 96 yX5_pairsAt, Cond.instanceMethod yX5_pairsAt, Cond.selects RX5 yX5_pairsAt yX5_pairsAt, Cond.code yX5_pairsAt cX5_pairsAt 7 (some .int), Cond.methodLink RX5 129 yX5_add, Cond.instanceMethod yX5_add, Cond.selects RX5 yX5_add yX5_add]
def wsX5_findAll_r4 : List Cond := [Cond.code yX5_add cX5_add 7 none, Cond.fieldLink RX5 32 "SignFormsModel" "value" "[I", Cond.fieldLink RX5 35 "SignFormsModel" "place" "[I", Cond.fieldLink RX5 38 "SignFormsModel" "length" "[I", Cond.fieldLink RX5 41 "SignFormsModel" "isMade" "[Z"]
def wsX5_findAll : List Cond := .code yX5_findAll cX5_findAll 6 none :: ((wsX5_findAll_r1 ++ (wsX5_findAll_r2 ++ (wsX5_findAll_r3 ++ wsX5_findAll_r4))) ++ wsX50)
def wsX5_open_r1 : List Cond := [Cond.fieldLink RX5 7 "SignFormsModel" "isOpen" "[Z", Cond.fieldLink RX5 13 "SignFormsModel" "isEnded" "[Z", Cond.fieldLink RX5 16 "SignFormsModel" "told" "[I", Cond.fieldLink RX5 23 "SignFormsModel" "policy" "[I", Cond.fieldLink RX5 29 "SignFormsModel" "many" "[I", Cond.methodLink RX5 134 yX5_isStream, Cond.static yX5_isStream, Cond.initialized RX5, Cond.code yX5_isStream cX5_isStream 1 (some .boolean), Cond.methodLink RX5 138 yX5_findAll, Cond.instanceMethod yX5_findAll, Cond.selects RX5 yX5_findAll yX5_findAll, Cond.code yX5_findAll cX5_findAll 6 none, Cond.fieldLink RX5 65 "SignFormsModel" "row" "[I", Cond.fieldLink RX5 26 "SignFormsModel" "came" "[I", Cond.fieldLink RX5 44 "SignFormsModel" "signs" "[I", Cond.fieldLink RX5 47 "SignFormsModel" "subparts" "[I", Cond.fieldLink RX5 53 "SignFormsModel" "broken" "[I", Cond.fieldLink RX5 56 "SignFormsModel" "firstSubpart" "[I", Cond.fieldLink RX5 59 "SignFormsModel" "isMarked" "[Z", Cond.fieldLink RX5 50 "SignFormsModel" "open" "[I", Cond.fieldLink RX5 20 "SignFormsModel" "form" "[I", Cond.fieldLink RX5 86 "SignFormsModel" "partValue" "I", Cond.fieldLink RX5 72 "SignFormsModel" "partLength" "I"]
def wsX5_open_r2 : List Cond := [Cond.constant RX5 133 (65533), Cond.methodLink RX5 121 yX5_findForm, Cond.instanceMethod yX5_findForm, Cond.selects RX5 yX5_findForm yX5_findForm, Cond.code yX5_findForm cX5_findForm 5 (some .int), Cond.methodLink RX5 117 yX5_isBegun, Cond.instanceMethod yX5_isBegun, Cond.selects RX5 yX5_isBegun yX5_isBegun, Cond.code yX5_isBegun cX5_isBegun 10 (some .boolean), Cond.methodLink RX5 125 yX5_partAt, Cond.instanceMethod yX5_partAt, Cond.selects RX5 yX5_partAt yX5_partAt, Cond.code yX5_partAt cX5_partAt 9 (some .int), Cond.constant RX5 89 (1114111), Cond.constant RX5 90 (55296), Cond.constant RX5 91 (57343), Cond.methodLink RX5 75 yX5_bytesAt, Cond.instanceMethod yX5_bytesAt, Cond.selects RX5 yX5_bytesAt yX5_bytesAt, Cond.code yX5_bytesAt cX5_bytesAt 7 (some .int), Cond.methodLink RX5 79 yX5_part, Cond.instanceMethod yX5_part, Cond.selects RX5 yX5_part yX5_part, Cond.code yX5_part cX5_part 3 (some .int)]
def wsX5_open_r3 : List Cond := [Cond.methodLink RX5 102 yX5_wanted, Cond.instanceMethod yX5_wanted, Cond.selects RX5 yX5_wanted yX5_wanted, Cond.code yX5_wanted cX5_wanted 5 (some .int), Cond.methodLink RX5 92 yX5_isBetween, Cond.static yX5_isBetween, Cond.code yX5_isBetween cX5_isBetween 3 (some .boolean), Cond.methodLink RX5 106 yX5_goesOn, Cond.instanceMethod yX5_goesOn, Cond.selects RX5 yX5_goesOn yX5_goesOn, Cond.code yX5_goesOn cX5_goesOn 6 (some .boolean), Cond.methodLink RX5 110 yX5_numberOf, Cond.instanceMethod yX5_numberOf, Cond.selects RX5 yX5_numberOf yX5_numberOf, Cond.code yX5_numberOf cX5_numberOf 5 (some .int), Cond.constant RX5 101 (65536), Cond.constant RX5 100 (56320), Cond.methodLink RX5 113 yX5_numberOf3, Cond.instanceMethod yX5_numberOf3, Cond.selects RX5 yX5_numberOf3 yX5_numberOf3, Cond.code yX5_numberOf3 cX5_numberOf3 2 (some .int), Cond.methodLink RX5 83 yX5_unitAt, Cond.instanceMethod yX5_unitAt, Cond.selects RX5 yX5_unitAt yX5_unitAt]
def wsX5_open_r4 : List Cond := [Cond.code yX5_unitAt cX5_unitAt 3 (some .int), Cond.methodLink RX5 96 yX5_pairsAt, Cond.instanceMethod yX5_pairsAt, Cond.selects RX5 yX5_pairsAt yX5_pairsAt, Cond.code yX5_pairsAt cX5_pairsAt 7 (some .int), Cond.methodLink RX5 129 yX5_add, Cond.instanceMethod yX5_add, Cond.selects RX5 yX5_add yX5_add, Cond.code yX5_add cX5_add 7 none, Cond.fieldLink RX5 32 "SignFormsModel" "value" "[I", Cond.fieldLink RX5 35 "SignFormsModel" "place" "[I", Cond.fieldLink RX5 38 "SignFormsModel" "length" "[I", Cond.fieldLink RX5 41 "SignFormsModel" "isMade" "[Z"]
def wsX5_open : List Cond := .code yX5_open cX5_open 4 (some .boolean) :: ((wsX5_open_r1 ++ (wsX5_open_r2 ++ (wsX5_open_r3 ++ wsX5_open_r4))) ++ wsX50)
def wsX5_takes : List Cond := .code yX5_takes cX5_takes 2 (some .boolean) :: ([.fieldLink RX5 7 "SignFormsModel" "isOpen" "[Z", .fieldLink RX5 13 "SignFormsModel" "isEnded" "[Z"] ++ wsX50)
def wsX5_put_r1 : List Cond := [Cond.fieldLink RX5 29 "SignFormsModel" "many" "[I", Cond.fieldLink RX5 26 "SignFormsModel" "came" "[I", Cond.fieldLink RX5 44 "SignFormsModel" "signs" "[I", Cond.methodLink RX5 134 yX5_isStream, Cond.static yX5_isStream, Cond.initialized RX5, Cond.code yX5_isStream cX5_isStream 1 (some .boolean), Cond.methodLink RX5 142 yX5_takes, Cond.instanceMethod yX5_takes, Cond.selects RX5 yX5_takes yX5_takes, Cond.code yX5_takes cX5_takes 2 (some .boolean), Cond.fieldLink RX5 7 "SignFormsModel" "isOpen" "[Z", Cond.fieldLink RX5 13 "SignFormsModel" "isEnded" "[Z", Cond.methodLink RX5 138 yX5_findAll, Cond.instanceMethod yX5_findAll, Cond.selects RX5 yX5_findAll yX5_findAll, Cond.code yX5_findAll cX5_findAll 6 none, Cond.fieldLink RX5 65 "SignFormsModel" "row" "[I", Cond.fieldLink RX5 47 "SignFormsModel" "subparts" "[I", Cond.fieldLink RX5 53 "SignFormsModel" "broken" "[I", Cond.fieldLink RX5 56 "SignFormsModel" "firstSubpart" "[I", Cond.fieldLink RX5 59 "SignFormsModel" "isMarked" "[Z", Cond.fieldLink RX5 50 "SignFormsModel" "open" "[I", Cond.fieldLink RX5 20 "SignFormsModel" "form" "[I"]
def wsX5_put_r2 : List Cond := [Cond.fieldLink RX5 16 "SignFormsModel" "told" "[I", Cond.fieldLink RX5 86 "SignFormsModel" "partValue" "I", Cond.fieldLink RX5 72 "SignFormsModel" "partLength" "I", Cond.fieldLink RX5 23 "SignFormsModel" "policy" "[I", Cond.constant RX5 133 (65533), Cond.methodLink RX5 121 yX5_findForm, Cond.instanceMethod yX5_findForm, Cond.selects RX5 yX5_findForm yX5_findForm, Cond.code yX5_findForm cX5_findForm 5 (some .int), Cond.methodLink RX5 117 yX5_isBegun, Cond.instanceMethod yX5_isBegun, Cond.selects RX5 yX5_isBegun yX5_isBegun, Cond.code yX5_isBegun cX5_isBegun 10 (some .boolean), Cond.methodLink RX5 125 yX5_partAt, Cond.instanceMethod yX5_partAt, Cond.selects RX5 yX5_partAt yX5_partAt, Cond.code yX5_partAt cX5_partAt 9 (some .int), Cond.constant RX5 89 (1114111), Cond.constant RX5 90 (55296), Cond.constant RX5 91 (57343), Cond.methodLink RX5 75 yX5_bytesAt, Cond.instanceMethod yX5_bytesAt, Cond.selects RX5 yX5_bytesAt yX5_bytesAt, Cond.code yX5_bytesAt cX5_bytesAt 7 (some .int)]
def wsX5_put_r3 : List Cond := [Cond.methodLink RX5 79 yX5_part, Cond.instanceMethod yX5_part, Cond.selects RX5 yX5_part yX5_part, Cond.code yX5_part cX5_part 3 (some .int), Cond.methodLink RX5 102 yX5_wanted, Cond.instanceMethod yX5_wanted, Cond.selects RX5 yX5_wanted yX5_wanted, Cond.code yX5_wanted cX5_wanted 5 (some .int), Cond.methodLink RX5 92 yX5_isBetween, Cond.static yX5_isBetween, Cond.code yX5_isBetween cX5_isBetween 3 (some .boolean), Cond.methodLink RX5 106 yX5_goesOn, Cond.instanceMethod yX5_goesOn, Cond.selects RX5 yX5_goesOn yX5_goesOn, Cond.code yX5_goesOn cX5_goesOn 6 (some .boolean), Cond.methodLink RX5 110 yX5_numberOf, Cond.instanceMethod yX5_numberOf, Cond.selects RX5 yX5_numberOf yX5_numberOf, Cond.code yX5_numberOf cX5_numberOf 5 (some .int), Cond.constant RX5 101 (65536), Cond.constant RX5 100 (56320), Cond.methodLink RX5 113 yX5_numberOf3, Cond.instanceMethod yX5_numberOf3, Cond.selects RX5 yX5_numberOf3 yX5_numberOf3]
def wsX5_put_r4 : List Cond := [Cond.code yX5_numberOf3 cX5_numberOf3 2 (some .int), Cond.methodLink RX5 83 yX5_unitAt, Cond.instanceMethod yX5_unitAt, Cond.selects RX5 yX5_unitAt yX5_unitAt, Cond.code yX5_unitAt cX5_unitAt 3 (some .int), Cond.methodLink RX5 96 yX5_pairsAt, Cond.instanceMethod yX5_pairsAt, Cond.selects RX5 yX5_pairsAt yX5_pairsAt, Cond.code yX5_pairsAt cX5_pairsAt 7 (some .int), Cond.methodLink RX5 129 yX5_add, Cond.instanceMethod yX5_add, Cond.selects RX5 yX5_add yX5_add, Cond.code yX5_add cX5_add 7 none, Cond.fieldLink RX5 32 "SignFormsModel" "value" "[I", Cond.fieldLink RX5 35 "SignFormsModel" "place" "[I", Cond.fieldLink RX5 38 "SignFormsModel" "length" "[I", Cond.fieldLink RX5 41 "SignFormsModel" "isMade" "[Z"]
def wsX5_put : List Cond := .code yX5_put cX5_put 6 (some .int) :: ((wsX5_put_r1 ++ (wsX5_put_r2 ++ (wsX5_put_r3 ++ wsX5_put_r4))) ++ wsX50)
def wsX5_pour_r1 : List Cond := [Cond.fieldLink RX5 68 "SignFormsModel" "outSize" "I", Cond.fieldLink RX5 29 "SignFormsModel" "many" "[I", Cond.fieldLink RX5 26 "SignFormsModel" "came" "[I", Cond.fieldLink RX5 62 "SignFormsModel" "out" "[I", Cond.methodLink RX5 134 yX5_isStream, Cond.static yX5_isStream, Cond.initialized RX5, Cond.code yX5_isStream cX5_isStream 1 (some .boolean), Cond.methodLink RX5 142 yX5_takes, Cond.instanceMethod yX5_takes, Cond.selects RX5 yX5_takes yX5_takes, Cond.code yX5_takes cX5_takes 2 (some .boolean), Cond.fieldLink RX5 7 "SignFormsModel" "isOpen" "[Z", Cond.fieldLink RX5 13 "SignFormsModel" "isEnded" "[Z", Cond.methodLink RX5 138 yX5_findAll, Cond.instanceMethod yX5_findAll, Cond.selects RX5 yX5_findAll yX5_findAll, Cond.code yX5_findAll cX5_findAll 6 none, Cond.fieldLink RX5 65 "SignFormsModel" "row" "[I", Cond.fieldLink RX5 44 "SignFormsModel" "signs" "[I", Cond.fieldLink RX5 47 "SignFormsModel" "subparts" "[I", Cond.fieldLink RX5 53 "SignFormsModel" "broken" "[I", Cond.fieldLink RX5 56 "SignFormsModel" "firstSubpart" "[I", Cond.fieldLink RX5 59 "SignFormsModel" "isMarked" "[Z"]
def wsX5_pour_r2 : List Cond := [Cond.fieldLink RX5 50 "SignFormsModel" "open" "[I", Cond.fieldLink RX5 20 "SignFormsModel" "form" "[I", Cond.fieldLink RX5 16 "SignFormsModel" "told" "[I", Cond.fieldLink RX5 86 "SignFormsModel" "partValue" "I", Cond.fieldLink RX5 72 "SignFormsModel" "partLength" "I", Cond.fieldLink RX5 23 "SignFormsModel" "policy" "[I", Cond.constant RX5 133 (65533), Cond.methodLink RX5 121 yX5_findForm, Cond.instanceMethod yX5_findForm, Cond.selects RX5 yX5_findForm yX5_findForm, Cond.code yX5_findForm cX5_findForm 5 (some .int), Cond.methodLink RX5 117 yX5_isBegun, Cond.instanceMethod yX5_isBegun, Cond.selects RX5 yX5_isBegun yX5_isBegun, Cond.code yX5_isBegun cX5_isBegun 10 (some .boolean), Cond.methodLink RX5 125 yX5_partAt, Cond.instanceMethod yX5_partAt, Cond.selects RX5 yX5_partAt yX5_partAt, Cond.code yX5_partAt cX5_partAt 9 (some .int), Cond.constant RX5 89 (1114111), Cond.constant RX5 90 (55296), Cond.constant RX5 91 (57343), Cond.methodLink RX5 75 yX5_bytesAt, Cond.instanceMethod yX5_bytesAt]
def wsX5_pour_r3 : List Cond := [Cond.selects RX5 yX5_bytesAt yX5_bytesAt, Cond.code yX5_bytesAt cX5_bytesAt 7 (some .int), Cond.methodLink RX5 79 yX5_part, Cond.instanceMethod yX5_part, Cond.selects RX5 yX5_part yX5_part, Cond.code yX5_part cX5_part 3 (some .int), Cond.methodLink RX5 102 yX5_wanted, Cond.instanceMethod yX5_wanted, Cond.selects RX5 yX5_wanted yX5_wanted, Cond.code yX5_wanted cX5_wanted 5 (some .int), Cond.methodLink RX5 92 yX5_isBetween, Cond.static yX5_isBetween, Cond.code yX5_isBetween cX5_isBetween 3 (some .boolean), Cond.methodLink RX5 106 yX5_goesOn, Cond.instanceMethod yX5_goesOn, Cond.selects RX5 yX5_goesOn yX5_goesOn, Cond.code yX5_goesOn cX5_goesOn 6 (some .boolean), Cond.methodLink RX5 110 yX5_numberOf, Cond.instanceMethod yX5_numberOf, Cond.selects RX5 yX5_numberOf yX5_numberOf, Cond.code yX5_numberOf cX5_numberOf 5 (some .int), Cond.constant RX5 101 (65536), Cond.constant RX5 100 (56320), Cond.methodLink RX5 113 yX5_numberOf3]
def wsX5_pour_r4 : List Cond := [Cond.instanceMethod yX5_numberOf3, Cond.selects RX5 yX5_numberOf3 yX5_numberOf3, Cond.code yX5_numberOf3 cX5_numberOf3 2 (some .int), Cond.methodLink RX5 83 yX5_unitAt, Cond.instanceMethod yX5_unitAt, Cond.selects RX5 yX5_unitAt yX5_unitAt, Cond.code yX5_unitAt cX5_unitAt 3 (some .int), Cond.methodLink RX5 96 yX5_pairsAt, Cond.instanceMethod yX5_pairsAt, Cond.selects RX5 yX5_pairsAt yX5_pairsAt, Cond.code yX5_pairsAt cX5_pairsAt 7 (some .int), Cond.methodLink RX5 129 yX5_add, Cond.instanceMethod yX5_add, Cond.selects RX5 yX5_add yX5_add, Cond.code yX5_add cX5_add 7 none, Cond.fieldLink RX5 32 "SignFormsModel" "value" "[I", Cond.fieldLink RX5 35 "SignFormsModel" "place" "[I", Cond.fieldLink RX5 38 "SignFormsModel" "length" "[I", Cond.fieldLink RX5 41 "SignFormsModel" "isMade" "[Z"]
def wsX5_pour : List Cond := .code yX5_pour cX5_pour 6 (some .int) :: ((wsX5_pour_r1 ++ (wsX5_pour_r2 ++ (wsX5_pour_r3 ++ wsX5_pour_r4))) ++ wsX50)
def wsX5_end_r1 : List Cond := [Cond.fieldLink RX5 13 "SignFormsModel" "isEnded" "[Z", Cond.fieldLink RX5 44 "SignFormsModel" "signs" "[I", Cond.methodLink RX5 134 yX5_isStream, Cond.static yX5_isStream, Cond.initialized RX5, Cond.code yX5_isStream cX5_isStream 1 (some .boolean), Cond.methodLink RX5 142 yX5_takes, Cond.instanceMethod yX5_takes, Cond.selects RX5 yX5_takes yX5_takes, Cond.code yX5_takes cX5_takes 2 (some .boolean), Cond.fieldLink RX5 7 "SignFormsModel" "isOpen" "[Z", Cond.methodLink RX5 138 yX5_findAll, Cond.instanceMethod yX5_findAll, Cond.selects RX5 yX5_findAll yX5_findAll, Cond.code yX5_findAll cX5_findAll 6 none, Cond.fieldLink RX5 29 "SignFormsModel" "many" "[I", Cond.fieldLink RX5 65 "SignFormsModel" "row" "[I", Cond.fieldLink RX5 26 "SignFormsModel" "came" "[I", Cond.fieldLink RX5 47 "SignFormsModel" "subparts" "[I", Cond.fieldLink RX5 53 "SignFormsModel" "broken" "[I", Cond.fieldLink RX5 56 "SignFormsModel" "firstSubpart" "[I", Cond.fieldLink RX5 59 "SignFormsModel" "isMarked" "[Z", Cond.fieldLink RX5 50 "SignFormsModel" "open" "[I", Cond.fieldLink RX5 20 "SignFormsModel" "form" "[I"]
def wsX5_end_r2 : List Cond := [Cond.fieldLink RX5 16 "SignFormsModel" "told" "[I", Cond.fieldLink RX5 86 "SignFormsModel" "partValue" "I", Cond.fieldLink RX5 72 "SignFormsModel" "partLength" "I", Cond.fieldLink RX5 23 "SignFormsModel" "policy" "[I", Cond.constant RX5 133 (65533), Cond.methodLink RX5 121 yX5_findForm, Cond.instanceMethod yX5_findForm, Cond.selects RX5 yX5_findForm yX5_findForm, Cond.code yX5_findForm cX5_findForm 5 (some .int), Cond.methodLink RX5 117 yX5_isBegun, Cond.instanceMethod yX5_isBegun, Cond.selects RX5 yX5_isBegun yX5_isBegun, Cond.code yX5_isBegun cX5_isBegun 10 (some .boolean), Cond.methodLink RX5 125 yX5_partAt, Cond.instanceMethod yX5_partAt, Cond.selects RX5 yX5_partAt yX5_partAt, Cond.code yX5_partAt cX5_partAt 9 (some .int), Cond.constant RX5 89 (1114111), Cond.constant RX5 90 (55296), Cond.constant RX5 91 (57343), Cond.methodLink RX5 75 yX5_bytesAt, Cond.instanceMethod yX5_bytesAt, Cond.selects RX5 yX5_bytesAt yX5_bytesAt, Cond.code yX5_bytesAt cX5_bytesAt 7 (some .int)]
def wsX5_end_r3 : List Cond := [Cond.methodLink RX5 79 yX5_part, Cond.instanceMethod yX5_part, Cond.selects RX5 yX5_part yX5_part, Cond.code yX5_part cX5_part 3 (some .int), Cond.methodLink RX5 102 yX5_wanted, Cond.instanceMethod yX5_wanted, Cond.selects RX5 yX5_wanted yX5_wanted, Cond.code yX5_wanted cX5_wanted 5 (some .int), Cond.methodLink RX5 92 yX5_isBetween, Cond.static yX5_isBetween, Cond.code yX5_isBetween cX5_isBetween 3 (some .boolean), Cond.methodLink RX5 106 yX5_goesOn, Cond.instanceMethod yX5_goesOn, Cond.selects RX5 yX5_goesOn yX5_goesOn, Cond.code yX5_goesOn cX5_goesOn 6 (some .boolean), Cond.methodLink RX5 110 yX5_numberOf, Cond.instanceMethod yX5_numberOf, Cond.selects RX5 yX5_numberOf yX5_numberOf, Cond.code yX5_numberOf cX5_numberOf 5 (some .int), Cond.constant RX5 101 (65536), Cond.constant RX5 100 (56320), Cond.methodLink RX5 113 yX5_numberOf3, Cond.instanceMethod yX5_numberOf3, Cond.selects RX5 yX5_numberOf3 yX5_numberOf3]
def wsX5_end_r4 : List Cond := [Cond.code yX5_numberOf3 cX5_numberOf3 2 (some .int), Cond.methodLink RX5 83 yX5_unitAt, Cond.instanceMethod yX5_unitAt, Cond.selects RX5 yX5_unitAt yX5_unitAt, Cond.code yX5_unitAt cX5_unitAt 3 (some .int), Cond.methodLink RX5 96 yX5_pairsAt, Cond.instanceMethod yX5_pairsAt, Cond.selects RX5 yX5_pairsAt yX5_pairsAt, Cond.code yX5_pairsAt cX5_pairsAt 7 (some .int), Cond.methodLink RX5 129 yX5_add, Cond.instanceMethod yX5_add, Cond.selects RX5 yX5_add yX5_add, Cond.code yX5_add cX5_add 7 none, Cond.fieldLink RX5 32 "SignFormsModel" "value" "[I", Cond.fieldLink RX5 35 "SignFormsModel" "place" "[I", Cond.fieldLink RX5 38 "SignFormsModel" "length" "[I", Cond.fieldLink RX5 41 "SignFormsModel" "isMade" "[Z"]
def wsX5_end : List Cond := .code yX5_end cX5_end 2 (some .int) :: ((wsX5_end_r1 ++ (wsX5_end_r2 ++ (wsX5_end_r3 ++ wsX5_end_r4))) ++ wsX50)
def wsX5_about : List Cond := .code yX5_about cX5_about 3 (some .int) :: ([.fieldLink RX5 7 "SignFormsModel" "isOpen" "[Z", .fieldLink RX5 20 "SignFormsModel" "form" "[I", .fieldLink RX5 29 "SignFormsModel" "many" "[I", .fieldLink RX5 44 "SignFormsModel" "signs" "[I", .fieldLink RX5 47 "SignFormsModel" "subparts" "[I", .fieldLink RX5 50 "SignFormsModel" "open" "[I", .fieldLink RX5 13 "SignFormsModel" "isEnded" "[Z", .fieldLink RX5 53 "SignFormsModel" "broken" "[I", .fieldLink RX5 59 "SignFormsModel" "isMarked" "[Z", .fieldLink RX5 56 "SignFormsModel" "firstSubpart" "[I", .methodLink RX5 134 yX5_isStream, .static yX5_isStream, .initialized RX5, .code yX5_isStream cX5_isStream 1 (some .boolean)] ++ wsX50)
def wsX5_isSign : List Cond := .code yX5_isSign cX5_isSign 3 (some .boolean) :: ([.fieldLink RX5 7 "SignFormsModel" "isOpen" "[Z", .fieldLink RX5 44 "SignFormsModel" "signs" "[I", .methodLink RX5 134 yX5_isStream, .static yX5_isStream, .initialized RX5, .code yX5_isStream cX5_isStream 1 (some .boolean)] ++ wsX50)
def wsX5_sign : List Cond := .code yX5_sign cX5_sign 3 (some .int) :: ([.fieldLink RX5 32 "SignFormsModel" "value" "[I", .methodLink RX5 145 yX5_isSign, .instanceMethod yX5_isSign, .selects RX5 yX5_isSign yX5_isSign, .initialized RX5, .code yX5_isSign cX5_isSign 3 (some .boolean), .fieldLink RX5 7 "SignFormsModel" "isOpen" "[Z", .fieldLink RX5 44 "SignFormsModel" "signs" "[I", .methodLink RX5 134 yX5_isStream, .static yX5_isStream, .code yX5_isStream cX5_isStream 1 (some .boolean)] ++ wsX50)
def wsX5_placed : List Cond := .code yX5_placed cX5_placed 5 (some .int) :: ([.fieldLink RX5 35 "SignFormsModel" "place" "[I", .fieldLink RX5 38 "SignFormsModel" "length" "[I", .fieldLink RX5 41 "SignFormsModel" "isMade" "[Z", .methodLink RX5 145 yX5_isSign, .instanceMethod yX5_isSign, .selects RX5 yX5_isSign yX5_isSign, .initialized RX5, .code yX5_isSign cX5_isSign 3 (some .boolean), .fieldLink RX5 7 "SignFormsModel" "isOpen" "[Z", .fieldLink RX5 44 "SignFormsModel" "signs" "[I", .methodLink RX5 134 yX5_isStream, .static yX5_isStream, .code yX5_isStream cX5_isStream 1 (some .boolean)] ++ wsX50)
def wsX5_at : List Cond := .code yX5_at cX5_at 5 (some .int) :: ([.fieldLink RX5 7 "SignFormsModel" "isOpen" "[Z", .fieldLink RX5 44 "SignFormsModel" "signs" "[I", .fieldLink RX5 35 "SignFormsModel" "place" "[I", .fieldLink RX5 38 "SignFormsModel" "length" "[I", .methodLink RX5 134 yX5_isStream, .static yX5_isStream, .initialized RX5, .code yX5_isStream cX5_isStream 1 (some .boolean)] ++ wsX50)
def wsX5_sizeOf : List Cond := .code yX5_sizeOf cX5_sizeOf 3 (some .int) :: ([.constant RX5 101 (65536)])
def wsX5_lay : List Cond := .code yX5_lay cX5_lay 2 none :: ([.fieldLink RX5 65 "SignFormsModel" "row" "[I", .fieldLink RX5 149 "SignFormsModel" "written" "I"] ++ wsX50)
def wsX5_layThree : List Cond := .code yX5_layThree cX5_layThree 2 none :: ([.methodLink RX5 152 yX5_lay, .instanceMethod yX5_lay, .selects RX5 yX5_lay yX5_lay, .initialized RX5, .code yX5_lay cX5_lay 2 none, .fieldLink RX5 65 "SignFormsModel" "row" "[I", .fieldLink RX5 149 "SignFormsModel" "written" "I"] ++ wsX50)
def wsX5_layUnit : List Cond := .code yX5_layUnit cX5_layUnit 3 none :: ([.methodLink RX5 152 yX5_lay, .instanceMethod yX5_lay, .selects RX5 yX5_lay yX5_lay, .initialized RX5, .code yX5_lay cX5_lay 2 none, .fieldLink RX5 65 "SignFormsModel" "row" "[I", .fieldLink RX5 149 "SignFormsModel" "written" "I"] ++ wsX50)
def wsX5_laySign : List Cond := .code yX5_laySign cX5_laySign 7 none :: ([.constant RX5 90 (55296), .constant RX5 101 (65536), .constant RX5 100 (56320), .methodLink RX5 152 yX5_lay, .instanceMethod yX5_lay, .selects RX5 yX5_lay yX5_lay, .initialized RX5, .code yX5_lay cX5_lay 2 none, .fieldLink RX5 65 "SignFormsModel" "row" "[I", .fieldLink RX5 149 "SignFormsModel" "written" "I", .methodLink RX5 155 yX5_layUnit, .instanceMethod yX5_layUnit, .selects RX5 yX5_layUnit yX5_layUnit, .code yX5_layUnit cX5_layUnit 3 none, .methodLink RX5 159 yX5_layThree, .instanceMethod yX5_layThree, .selects RX5 yX5_layThree yX5_layThree, .code yX5_layThree cX5_layThree 2 none] ++ wsX50)
def wsX5_write_r1 : List Cond := [Cond.fieldLink RX5 7 "SignFormsModel" "isOpen" "[Z", Cond.constant RX5 165 (65279), Cond.fieldLink RX5 44 "SignFormsModel" "signs" "[I", Cond.fieldLink RX5 32 "SignFormsModel" "value" "[I", Cond.fieldLink RX5 149 "SignFormsModel" "written" "I", Cond.fieldLink RX5 62 "SignFormsModel" "out" "[I", Cond.fieldLink RX5 65 "SignFormsModel" "row" "[I", Cond.fieldLink RX5 68 "SignFormsModel" "outSize" "I", Cond.methodLink RX5 134 yX5_isStream, Cond.static yX5_isStream, Cond.initialized RX5, Cond.code yX5_isStream cX5_isStream 1 (some .boolean), Cond.methodLink RX5 162 yX5_isForm, Cond.static yX5_isForm, Cond.code yX5_isForm cX5_isForm 1 (some .boolean), Cond.methodLink RX5 166 yX5_sizeOf, Cond.static yX5_sizeOf, Cond.code yX5_sizeOf cX5_sizeOf 3 (some .int), Cond.constant RX5 101 (65536), Cond.methodLink RX5 169 yX5_laySign, Cond.instanceMethod yX5_laySign, Cond.selects RX5 yX5_laySign yX5_laySign, Cond.code yX5_laySign cX5_laySign 7 none, Cond.constant RX5 90 (55296)]
def wsX5_write_r2 : List Cond := [Cond.constant RX5 100 (56320), Cond.methodLink RX5 152 yX5_lay, Cond.instanceMethod yX5_lay, Cond.selects RX5 yX5_lay yX5_lay, Cond.code yX5_lay cX5_lay 2 none, Cond.methodLink RX5 155 yX5_layUnit, Cond.instanceMethod yX5_layUnit, Cond.selects RX5 yX5_layUnit yX5_layUnit, Cond.code yX5_layUnit cX5_layUnit 3 none, Cond.methodLink RX5 159 yX5_layThree, Cond.instanceMethod yX5_layThree, Cond.selects RX5 yX5_layThree yX5_layThree, Cond.code yX5_layThree cX5_layThree 2 none]
def wsX5_write : List Cond := .code yX5_write cX5_write 6 (some .int) :: ((wsX5_write_r1 ++ wsX5_write_r2) ++ wsX50)
def wsX5_size : List Cond := .code yX5_size cX5_size 7 (some .int) :: ([.fieldLink RX5 7 "SignFormsModel" "isOpen" "[Z", .fieldLink RX5 44 "SignFormsModel" "signs" "[I", .fieldLink RX5 32 "SignFormsModel" "value" "[I", .methodLink RX5 134 yX5_isStream, .static yX5_isStream, .initialized RX5, .code yX5_isStream cX5_isStream 1 (some .boolean), .methodLink RX5 162 yX5_isForm, .static yX5_isForm, .code yX5_isForm cX5_isForm 1 (some .boolean), .methodLink RX5 166 yX5_sizeOf, .static yX5_sizeOf, .code yX5_sizeOf cX5_sizeOf 3 (some .int), .constant RX5 101 (65536)] ++ wsX50)
def wsX5_out : List Cond := .code yX5_out cX5_out 2 (some .int) :: ([.fieldLink RX5 68 "SignFormsModel" "outSize" "I", .fieldLink RX5 62 "SignFormsModel" "out" "[I"] ++ wsX50)
def wsX5_check_r1 : List Cond := [Cond.fieldLink RX5 68 "SignFormsModel" "outSize" "I", Cond.fieldLink RX5 65 "SignFormsModel" "row" "[I", Cond.fieldLink RX5 62 "SignFormsModel" "out" "[I", Cond.fieldLink RX5 72 "SignFormsModel" "partLength" "I", Cond.methodLink RX5 162 yX5_isForm, Cond.static yX5_isForm, Cond.initialized RX5, Cond.code yX5_isForm cX5_isForm 1 (some .boolean), Cond.methodLink RX5 125 yX5_partAt, Cond.instanceMethod yX5_partAt, Cond.selects RX5 yX5_partAt yX5_partAt, Cond.code yX5_partAt cX5_partAt 9 (some .int), Cond.fieldLink RX5 86 "SignFormsModel" "partValue" "I", Cond.constant RX5 89 (1114111), Cond.constant RX5 90 (55296), Cond.constant RX5 91 (57343), Cond.methodLink RX5 75 yX5_bytesAt, Cond.instanceMethod yX5_bytesAt, Cond.selects RX5 yX5_bytesAt yX5_bytesAt, Cond.code yX5_bytesAt cX5_bytesAt 7 (some .int), Cond.methodLink RX5 79 yX5_part, Cond.instanceMethod yX5_part, Cond.selects RX5 yX5_part yX5_part, Cond.code yX5_part cX5_part 3 (some .int)]
def wsX5_check_r2 : List Cond := [Cond.methodLink RX5 102 yX5_wanted, Cond.instanceMethod yX5_wanted, Cond.selects RX5 yX5_wanted yX5_wanted, Cond.code yX5_wanted cX5_wanted 5 (some .int), Cond.methodLink RX5 92 yX5_isBetween, Cond.static yX5_isBetween, Cond.code yX5_isBetween cX5_isBetween 3 (some .boolean), Cond.methodLink RX5 106 yX5_goesOn, Cond.instanceMethod yX5_goesOn, Cond.selects RX5 yX5_goesOn yX5_goesOn, Cond.code yX5_goesOn cX5_goesOn 6 (some .boolean), Cond.methodLink RX5 110 yX5_numberOf, Cond.instanceMethod yX5_numberOf, Cond.selects RX5 yX5_numberOf yX5_numberOf, Cond.code yX5_numberOf cX5_numberOf 5 (some .int), Cond.constant RX5 101 (65536), Cond.constant RX5 100 (56320), Cond.methodLink RX5 113 yX5_numberOf3, Cond.instanceMethod yX5_numberOf3, Cond.selects RX5 yX5_numberOf3 yX5_numberOf3, Cond.code yX5_numberOf3 cX5_numberOf3 2 (some .int), Cond.methodLink RX5 83 yX5_unitAt, Cond.instanceMethod yX5_unitAt, Cond.selects RX5 yX5_unitAt yX5_unitAt]
def wsX5_check_r3 : List Cond := [Cond.code yX5_unitAt cX5_unitAt 3 (some .int), Cond.methodLink RX5 96 yX5_pairsAt, Cond.instanceMethod yX5_pairsAt, Cond.selects RX5 yX5_pairsAt yX5_pairsAt, Cond.code yX5_pairsAt cX5_pairsAt 7 (some .int)]
def wsX5_check : List Cond := .code yX5_check cX5_check 3 (some .int) :: ((wsX5_check_r1 ++ (wsX5_check_r2 ++ wsX5_check_r3)) ++ wsX50)
def wsX5_compared : List Cond := .code yX5_compared cX5_compared 7 (some .int) :: ([.fieldLink RX5 149 "SignFormsModel" "written" "I", .fieldLink RX5 65 "SignFormsModel" "row" "[I", .methodLink RX5 169 yX5_laySign, .instanceMethod yX5_laySign, .selects RX5 yX5_laySign yX5_laySign, .initialized RX5, .code yX5_laySign cX5_laySign 7 none, .constant RX5 90 (55296), .constant RX5 101 (65536), .constant RX5 100 (56320), .methodLink RX5 152 yX5_lay, .instanceMethod yX5_lay, .selects RX5 yX5_lay yX5_lay, .code yX5_lay cX5_lay 2 none, .methodLink RX5 155 yX5_layUnit, .instanceMethod yX5_layUnit, .selects RX5 yX5_layUnit yX5_layUnit, .code yX5_layUnit cX5_layUnit 3 none, .methodLink RX5 159 yX5_layThree, .instanceMethod yX5_layThree, .selects RX5 yX5_layThree yX5_layThree, .code yX5_layThree cX5_layThree 2 none] ++ wsX50)
def wsX5_order_r1 : List Cond := [Cond.fieldLink RX5 7 "SignFormsModel" "isOpen" "[Z", Cond.fieldLink RX5 44 "SignFormsModel" "signs" "[I", Cond.fieldLink RX5 32 "SignFormsModel" "value" "[I", Cond.methodLink RX5 134 yX5_isStream, Cond.static yX5_isStream, Cond.initialized RX5, Cond.code yX5_isStream cX5_isStream 1 (some .boolean), Cond.methodLink RX5 172 yX5_compared, Cond.instanceMethod yX5_compared, Cond.selects RX5 yX5_compared yX5_compared, Cond.code yX5_compared cX5_compared 7 (some .int), Cond.fieldLink RX5 149 "SignFormsModel" "written" "I", Cond.fieldLink RX5 65 "SignFormsModel" "row" "[I", Cond.methodLink RX5 169 yX5_laySign, Cond.instanceMethod yX5_laySign, Cond.selects RX5 yX5_laySign yX5_laySign, Cond.code yX5_laySign cX5_laySign 7 none, Cond.constant RX5 90 (55296), Cond.constant RX5 101 (65536), Cond.constant RX5 100 (56320), Cond.methodLink RX5 152 yX5_lay, Cond.instanceMethod yX5_lay, Cond.selects RX5 yX5_lay yX5_lay, Cond.code yX5_lay cX5_lay 2 none]
def wsX5_order_r2 : List Cond := [Cond.methodLink RX5 155 yX5_layUnit, Cond.instanceMethod yX5_layUnit, Cond.selects RX5 yX5_layUnit yX5_layUnit, Cond.code yX5_layUnit cX5_layUnit 3 none, Cond.methodLink RX5 159 yX5_layThree, Cond.instanceMethod yX5_layThree, Cond.selects RX5 yX5_layThree yX5_layThree, Cond.code yX5_layThree cX5_layThree 2 none]
def wsX5_order : List Cond := .code yX5_order cX5_order 9 (some .int) :: ((wsX5_order_r1 ++ wsX5_order_r2) ++ wsX50)
def wsX5_among : List Cond := .code yX5_among cX5_among 7 (some .int) :: ([.fieldLink RX5 7 "SignFormsModel" "isOpen" "[Z", .fieldLink RX5 44 "SignFormsModel" "signs" "[I", .fieldLink RX5 32 "SignFormsModel" "value" "[I", .methodLink RX5 134 yX5_isStream, .static yX5_isStream, .initialized RX5, .code yX5_isStream cX5_isStream 1 (some .boolean)] ++ wsX50)
def wsJ9_min_7cf53 : List Cond := .code yJ9_min_7cf53 cJ9_min_7cf53 2 (some .int) :: ([])
def wsL_law_r1 : List Cond := [Cond.classLink RL 7 RX4, Cond.instantiable RX4 3, Cond.initialized RX4, Cond.classLink RL 10 RX5, Cond.instantiable RX5 23, Cond.initialized RX5, Cond.constantLong RL 18 (4294967295), Cond.methodLink RL 9 yX4_init, Cond.instanceMethod yX4_init, Cond.code yX4_init cX4_init 1 none, Cond.methodLink RX4 3 objectInit, Cond.instanceMethod objectInit, Cond.code objectInit ⟨#[0xb1]⟩ 1 none, Cond.classLink RX4 9 RX3, Cond.fieldLink RX4 11 "SignForms" "streams" "[LSignForms$Stream;", Cond.classLink RX4 15 RX1, Cond.instantiable RX1 2, Cond.initialized RX1, Cond.fieldLink RX4 18 "SignForms" "outRow" "LSignForms$OutRow;", Cond.classLink RX4 22 RX2, Cond.instantiable RX2 3, Cond.initialized RX2, Cond.fieldLink RX4 25 "SignForms" "part" "LSignForms$Part;", Cond.methodLink RX4 17 yX1_init]
def wsL_law_r2 : List Cond := [Cond.instanceMethod yX1_init, Cond.code yX1_init cX1_init 1 none, Cond.methodLink RX1 3 objectInit, Cond.arrayClass .int, Cond.fieldLink RX1 9 "SignForms$OutRow" "bytes" "[I", Cond.fieldLink RX1 15 "SignForms$OutRow" "count" "I", Cond.instanceMethod yX2_init, Cond.code yX2_init cX2_init 1 none, Cond.methodLink RX2 3 objectInit, Cond.methodLink RL 12 yX5_init, Cond.instanceMethod yX5_init, Cond.code yX5_init cX5_init 1 none, Cond.methodLink RX5 1 objectInit, Cond.arrayClass .boolean, Cond.fieldLink RX5 7 "SignFormsModel" "isOpen" "[Z", Cond.fieldLink RX5 13 "SignFormsModel" "isEnded" "[Z", Cond.fieldLink RX5 16 "SignFormsModel" "told" "[I", Cond.fieldLink RX5 20 "SignFormsModel" "form" "[I", Cond.fieldLink RX5 23 "SignFormsModel" "policy" "[I", Cond.fieldLink RX5 26 "SignFormsModel" "came" "[I", Cond.fieldLink RX5 29 "SignFormsModel" "many" "[I", Cond.fieldLink RX5 32 "SignFormsModel" "value" "[I", Cond.fieldLink RX5 35 "SignFormsModel" "place" "[I", Cond.fieldLink RX5 38 "SignFormsModel" "length" "[I"]
def wsL_law_r3 : List Cond := [Cond.fieldLink RX5 41 "SignFormsModel" "isMade" "[Z", Cond.fieldLink RX5 44 "SignFormsModel" "signs" "[I", Cond.fieldLink RX5 47 "SignFormsModel" "subparts" "[I", Cond.fieldLink RX5 50 "SignFormsModel" "open" "[I", Cond.fieldLink RX5 53 "SignFormsModel" "broken" "[I", Cond.fieldLink RX5 56 "SignFormsModel" "firstSubpart" "[I", Cond.fieldLink RX5 59 "SignFormsModel" "isMarked" "[Z", Cond.fieldLink RX5 62 "SignFormsModel" "out" "[I", Cond.fieldLink RX5 65 "SignFormsModel" "row" "[I", Cond.fieldLink RX5 68 "SignFormsModel" "outSize" "I", Cond.methodLink RL 13 yX4_open, Cond.instanceMethod yX4_open, Cond.selects RX4 yX4_open yX4_open, Cond.code yX4_open cX4_open 5 (some .boolean), Cond.instantiable RX3 16, Cond.initialized RX3, Cond.methodLink RX4 29 yX4_isStream, Cond.instanceMethod yX4_isStream, Cond.selects RX4 yX4_isStream yX4_isStream, Cond.code yX4_isStream cX4_isStream 2 (some .boolean), Cond.methodLink RX4 33 yX3_init, Cond.instanceMethod yX3_init, Cond.code yX3_init cX3_init 1 none, Cond.methodLink RX3 3 objectInit]
def wsL_law_r4 : List Cond := [Cond.fieldLink RX3 9 "SignForms$Stream" "bytes" "[I", Cond.fieldLink RX3 15 "SignForms$Stream" "signs" "[I", Cond.fieldLink RX3 18 "SignForms$Stream" "places" "[I", Cond.fieldLink RX3 21 "SignForms$Stream" "lengths" "[I", Cond.fieldLink RX3 24 "SignForms$Stream" "replaced" "[I", Cond.classLink RX3 27 RX2, Cond.fieldLink RX3 30 "SignForms$Stream" "part" "LSignForms$Part;", Cond.methodLink RX4 34 yX3_begin, Cond.instanceMethod yX3_begin, Cond.selects RX3 yX3_begin yX3_begin, Cond.code yX3_begin cX3_begin 3 none, Cond.fieldLink RX3 34 "SignForms$Stream" "form" "I", Cond.fieldLink RX3 38 "SignForms$Stream" "policy" "I", Cond.fieldLink RX3 41 "SignForms$Stream" "came" "I", Cond.fieldLink RX3 44 "SignForms$Stream" "decided" "I", Cond.fieldLink RX3 47 "SignForms$Stream" "signCount" "I", Cond.fieldLink RX3 50 "SignForms$Stream" "subparts" "I", Cond.fieldLink RX3 53 "SignForms$Stream" "firstSubpart" "I", Cond.fieldLink RX3 56 "SignForms$Stream" "brokenAt" "I", Cond.fieldLink RX3 59 "SignForms$Stream" "marked" "Z", Cond.fieldLink RX3 63 "SignForms$Stream" "ended" "Z", Cond.methodLink RL 17 yX5_open, Cond.instanceMethod yX5_open, Cond.selects RX5 yX5_open yX5_open]
def wsL_law_r5 : List Cond := [Cond.code yX5_open cX5_open 4 (some .boolean), Cond.methodLink RX5 134 yX5_isStream, Cond.static yX5_isStream, Cond.code yX5_isStream cX5_isStream 1 (some .boolean), Cond.methodLink RX5 138 yX5_findAll, Cond.instanceMethod yX5_findAll, Cond.selects RX5 yX5_findAll yX5_findAll, Cond.code yX5_findAll cX5_findAll 6 none, Cond.fieldLink RX5 86 "SignFormsModel" "partValue" "I", Cond.fieldLink RX5 72 "SignFormsModel" "partLength" "I", Cond.constant RX5 133 (65533), Cond.methodLink RX5 121 yX5_findForm, Cond.instanceMethod yX5_findForm, Cond.selects RX5 yX5_findForm yX5_findForm, Cond.code yX5_findForm cX5_findForm 5 (some .int), Cond.methodLink RX5 117 yX5_isBegun, Cond.instanceMethod yX5_isBegun, Cond.selects RX5 yX5_isBegun yX5_isBegun, Cond.code yX5_isBegun cX5_isBegun 10 (some .boolean), Cond.methodLink RX5 125 yX5_partAt, Cond.instanceMethod yX5_partAt, Cond.selects RX5 yX5_partAt yX5_partAt, Cond.code yX5_partAt cX5_partAt 9 (some .int), Cond.constant RX5 89 (1114111)]
def wsL_law_r6 : List Cond := [Cond.constant RX5 90 (55296), Cond.constant RX5 91 (57343), Cond.methodLink RX5 75 yX5_bytesAt, Cond.instanceMethod yX5_bytesAt, Cond.selects RX5 yX5_bytesAt yX5_bytesAt, Cond.code yX5_bytesAt cX5_bytesAt 7 (some .int), Cond.methodLink RX5 79 yX5_part, Cond.instanceMethod yX5_part, Cond.selects RX5 yX5_part yX5_part, Cond.code yX5_part cX5_part 3 (some .int), Cond.methodLink RX5 102 yX5_wanted, Cond.instanceMethod yX5_wanted, Cond.selects RX5 yX5_wanted yX5_wanted, Cond.code yX5_wanted cX5_wanted 5 (some .int), Cond.methodLink RX5 92 yX5_isBetween, Cond.static yX5_isBetween, Cond.code yX5_isBetween cX5_isBetween 3 (some .boolean), Cond.methodLink RX5 106 yX5_goesOn, Cond.instanceMethod yX5_goesOn, Cond.selects RX5 yX5_goesOn yX5_goesOn, Cond.code yX5_goesOn cX5_goesOn 6 (some .boolean), Cond.methodLink RX5 110 yX5_numberOf, Cond.instanceMethod yX5_numberOf, Cond.selects RX5 yX5_numberOf yX5_numberOf]
def wsL_law_r7 : List Cond := [Cond.code yX5_numberOf cX5_numberOf 5 (some .int), Cond.constant RX5 101 (65536), Cond.constant RX5 100 (56320), Cond.methodLink RX5 113 yX5_numberOf3, Cond.instanceMethod yX5_numberOf3, Cond.selects RX5 yX5_numberOf3 yX5_numberOf3, Cond.code yX5_numberOf3 cX5_numberOf3 2 (some .int), Cond.methodLink RX5 83 yX5_unitAt, Cond.instanceMethod yX5_unitAt, Cond.selects RX5 yX5_unitAt yX5_unitAt, Cond.code yX5_unitAt cX5_unitAt 3 (some .int), Cond.methodLink RX5 96 yX5_pairsAt, Cond.instanceMethod yX5_pairsAt, Cond.selects RX5 yX5_pairsAt yX5_pairsAt, Cond.code yX5_pairsAt cX5_pairsAt 7 (some .int), Cond.methodLink RX5 129 yX5_add, Cond.instanceMethod yX5_add, Cond.selects RX5 yX5_add yX5_add, Cond.code yX5_add cX5_add 7 none, Cond.methodLink RL 20 yX4_put, Cond.instanceMethod yX4_put, Cond.selects RX4 yX4_put yX4_put, Cond.code yX4_put cX4_put 7 (some .int), Cond.fieldLink RX4 38 "SignForms$Stream" "ended" "Z"]
def wsL_law_r8 : List Cond := [Cond.fieldLink RX4 52 "SignForms$Stream" "signCount" "I", Cond.methodLink RX4 42 yX3_hasRoomFor, Cond.instanceMethod yX3_hasRoomFor, Cond.selects RX3 yX3_hasRoomFor yX3_hasRoomFor, Cond.code yX3_hasRoomFor cX3_hasRoomFor 2 (some .boolean), Cond.methodLink RX4 45 yX3_take, Cond.instanceMethod yX3_take, Cond.selects RX3 yX3_take yX3_take, Cond.code yX3_take cX3_take 2 none, Cond.methodLink RX4 49 yX3_decide, Cond.instanceMethod yX3_decide, Cond.selects RX3 yX3_decide yX3_decide, Cond.code yX3_decide cX3_decide 1 none, Cond.methodLink RX3 66 yX3_findForm, Cond.instanceMethod yX3_findForm, Cond.selects RX3 yX3_findForm yX3_findForm, Cond.code yX3_findForm cX3_findForm 3 none, Cond.fieldLink RX3 72 "SignForms$Stream" "MARK_FORMS" "[I", Cond.fieldLink RX3 75 "SignForms$Stream" "MARK_LENGTHS" "[I", Cond.methodLink RX3 78 Lib.Math.min.name, Cond.static Lib.Math.min.name, Cond.initialized "java/lang/Math", Cond.code Lib.Math.min.name Lib.Math.min.code 2 (some .int), Cond.methodLink RX3 84 yX3_agrees]
def wsL_law_r9 : List Cond := [Cond.instanceMethod yX3_agrees, Cond.selects RX3 yX3_agrees yX3_agrees, Cond.code yX3_agrees cX3_agrees 4 (some .boolean), Cond.fieldLink RX3 88 "SignForms$Stream" "MARK_BYTES" "[I", Cond.methodLink RX3 69 yX3_tellParts, Cond.instanceMethod yX3_tellParts, Cond.selects RX3 yX3_tellParts yX3_tellParts, Cond.code yX3_tellParts cX3_tellParts 2 none, Cond.fieldLink RX3 95 "SignForms$Part" "length" "I", Cond.fieldLink RX3 98 "SignForms$Part" "isSign" "Z", Cond.fieldLink RX3 101 "SignForms$Part" "sign" "I", Cond.methodLink RX3 91 yX2_look, Cond.instanceMethod yX2_look, Cond.selects RX2 yX2_look yX2_look, Cond.code yX2_look cX2_look 6 none, Cond.fieldLink RX2 24 "SignForms$Part" "length" "I", Cond.methodLink RX2 9 yX2_tellNothing, Cond.instanceMethod yX2_tellNothing, Cond.selects RX2 yX2_tellNothing yX2_tellNothing, Cond.code yX2_tellNothing cX2_tellNothing 1 none, Cond.fieldLink RX2 36 "SignForms$Part" "isSign" "Z", Cond.fieldLink RX2 40 "SignForms$Part" "sign" "I", Cond.methodLink RX2 14 yX2_lookAtBytes, Cond.instanceMethod yX2_lookAtBytes]
def wsL_law_r10 : List Cond := [Cond.selects RX2 yX2_lookAtBytes yX2_lookAtBytes, Cond.code yX2_lookAtBytes cX2_lookAtBytes 12 none, Cond.methodLink RX2 48 yX2_neededBy, Cond.static yX2_neededBy, Cond.code yX2_neededBy cX2_neededBy 2 (some .int), Cond.methodLink RX2 32 yX2_tellSubpart, Cond.instanceMethod yX2_tellSubpart, Cond.selects RX2 yX2_tellSubpart yX2_tellSubpart, Cond.code yX2_tellSubpart cX2_tellSubpart 2 none, Cond.methodLink RX2 52 yX2_leastBehind, Cond.static yX2_leastBehind, Cond.code yX2_leastBehind cX2_leastBehind 1 (some .int), Cond.methodLink RX2 56 yX2_mostBehind, Cond.static yX2_mostBehind, Cond.code yX2_mostBehind cX2_mostBehind 2 (some .int), Cond.methodLink RX2 59 yX0_isFirst, Cond.static yX0_isFirst, Cond.initialized RX0, Cond.code yX0_isFirst cX0_isFirst 1 (some .boolean), Cond.constant RX0 9 (55296), Cond.constant RX0 10 (56319), Cond.methodLink RX2 65 yX2_lookAtSecondHalf, Cond.instanceMethod yX2_lookAtSecondHalf, Cond.selects RX2 yX2_lookAtSecondHalf yX2_lookAtSecondHalf]
def wsL_law_r11 : List Cond := [Cond.code yX2_lookAtSecondHalf cX2_lookAtSecondHalf 9 none, Cond.fieldLink RX2 73 "SignForms$Part" "SECOND_HALF_LEAST" "[I", Cond.fieldLink RX2 77 "SignForms$Part" "SECOND_HALF_MOST" "[I", Cond.constant RX2 80 (65535), Cond.methodLink RX2 81 yX0_joined, Cond.static yX0_joined, Cond.code yX0_joined cX0_joined 2 (some .int), Cond.constant RX0 13 (65536), Cond.constant RX0 11 (56320), Cond.methodLink RX2 69 yX2_tellSign, Cond.instanceMethod yX2_tellSign, Cond.selects RX2 yX2_tellSign yX2_tellSign, Cond.code yX2_tellSign cX2_tellSign 3 none, Cond.methodLink RX2 18 yX2_lookAtPairs, Cond.instanceMethod yX2_lookAtPairs, Cond.selects RX2 yX2_lookAtPairs yX2_lookAtPairs, Cond.code yX2_lookAtPairs cX2_lookAtPairs 7 none, Cond.methodLink RX2 84 yX2_unit, Cond.static yX2_unit, Cond.code yX2_unit cX2_unit 7 (some .int), Cond.methodLink RX2 88 yX0_isSecond, Cond.static yX0_isSecond, Cond.code yX0_isSecond cX0_isSecond 1 (some .boolean), Cond.constant RX0 12 (57343)]
def wsL_law_r12 : List Cond := [Cond.methodLink RX2 21 yX2_lookAtFour, Cond.instanceMethod yX2_lookAtFour, Cond.selects RX2 yX2_lookAtFour yX2_lookAtFour, Cond.code yX2_lookAtFour cX2_lookAtFour 7 none, Cond.constant RX2 91 (1114111), Cond.methodLink RX2 28 yX2_cutLength, Cond.static yX2_cutLength, Cond.code yX2_cutLength cX2_cutLength 3 (some .int), Cond.methodLink RX2 43 Lib.Math.min.name, Cond.methodLink RX3 104 yX3_addSign, Cond.instanceMethod yX3_addSign, Cond.selects RX3 yX3_addSign yX3_addSign, Cond.code yX3_addSign cX3_addSign 3 none, Cond.methodLink RX3 108 yX3_meetSubpart, Cond.instanceMethod yX3_meetSubpart, Cond.selects RX3 yX3_meetSubpart yX3_meetSubpart, Cond.code yX3_meetSubpart cX3_meetSubpart 1 none, Cond.constant RX3 111 (65533), Cond.methodLink RL 24 yX5_put, Cond.instanceMethod yX5_put, Cond.selects RX5 yX5_put yX5_put, Cond.code yX5_put cX5_put 6 (some .int), Cond.methodLink RX5 142 yX5_takes, Cond.instanceMethod yX5_takes]
def wsL_law_r13 : List Cond := [Cond.selects RX5 yX5_takes yX5_takes, Cond.code yX5_takes cX5_takes 2 (some .boolean), Cond.methodLink RL 25 yX4_pour, Cond.instanceMethod yX4_pour, Cond.selects RX4 yX4_pour yX4_pour, Cond.code yX4_pour cX4_pour 7 (some .int), Cond.fieldLink RX4 56 "SignForms$OutRow" "count" "I", Cond.methodLink RX4 59 Lib.Math.min.name, Cond.methodLink RX4 65 yX1_byteAt, Cond.instanceMethod yX1_byteAt, Cond.selects RX1 yX1_byteAt yX1_byteAt, Cond.code yX1_byteAt cX1_byteAt 2 (some .int), Cond.methodLink RL 29 yX5_pour, Cond.instanceMethod yX5_pour, Cond.selects RX5 yX5_pour yX5_pour, Cond.code yX5_pour cX5_pour 6 (some .int), Cond.methodLink RL 30 yX4_end, Cond.instanceMethod yX4_end, Cond.selects RX4 yX4_end yX4_end, Cond.code yX4_end cX4_end 3 (some .int), Cond.methodLink RL 34 yX5_end, Cond.instanceMethod yX5_end, Cond.selects RX5 yX5_end yX5_end, Cond.code yX5_end cX5_end 2 (some .int)]
def wsL_law_r14 : List Cond := [Cond.methodLink RL 35 yX4_about, Cond.instanceMethod yX4_about, Cond.selects RX4 yX4_about yX4_about, Cond.code yX4_about cX4_about 4 (some .int), Cond.methodLink RX4 69 yX3_fact, Cond.instanceMethod yX3_fact, Cond.selects RX3 yX3_fact yX3_fact, Cond.code yX3_fact cX3_fact 2 (some .int), Cond.methodLink RL 39 yX5_about, Cond.instanceMethod yX5_about, Cond.selects RX5 yX5_about yX5_about, Cond.code yX5_about cX5_about 3 (some .int), Cond.methodLink RL 40 yX4_sign, Cond.instanceMethod yX4_sign, Cond.selects RX4 yX4_sign yX4_sign, Cond.code yX4_sign cX4_sign 4 (some .int), Cond.fieldLink RX4 79 "SignForms$Stream" "signs" "[I", Cond.methodLink RX4 72 yX4_openStream, Cond.instanceMethod yX4_openStream, Cond.selects RX4 yX4_openStream yX4_openStream, Cond.code yX4_openStream cX4_openStream 2 (some (.object "SignForms$Stream")), Cond.methodLink RX4 76 yX3_hasSign, Cond.instanceMethod yX3_hasSign, Cond.selects RX3 yX3_hasSign yX3_hasSign]
def wsL_law_r15 : List Cond := [Cond.code yX3_hasSign cX3_hasSign 2 (some .boolean), Cond.methodLink RL 43 yX5_sign, Cond.instanceMethod yX5_sign, Cond.selects RX5 yX5_sign yX5_sign, Cond.code yX5_sign cX5_sign 3 (some .int), Cond.methodLink RX5 145 yX5_isSign, Cond.instanceMethod yX5_isSign, Cond.selects RX5 yX5_isSign yX5_isSign, Cond.code yX5_isSign cX5_isSign 3 (some .boolean), Cond.methodLink RL 44 yX4_placed, Cond.instanceMethod yX4_placed, Cond.selects RX4 yX4_placed yX4_placed, Cond.code yX4_placed cX4_placed 5 (some .int), Cond.fieldLink RX4 83 "SignForms$Stream" "places" "[I", Cond.fieldLink RX4 86 "SignForms$Stream" "lengths" "[I", Cond.fieldLink RX4 89 "SignForms$Stream" "replaced" "[I", Cond.methodLink RL 47 yX5_placed, Cond.instanceMethod yX5_placed, Cond.selects RX5 yX5_placed yX5_placed, Cond.code yX5_placed cX5_placed 5 (some .int), Cond.methodLink RL 48 yX4_at, Cond.instanceMethod yX4_at, Cond.selects RX4 yX4_at yX4_at, Cond.code yX4_at cX4_at 4 (some .int)]
def wsL_law_r16 : List Cond := [Cond.methodLink RX4 92 yX3_signOver, Cond.instanceMethod yX3_signOver, Cond.selects RX3 yX3_signOver yX3_signOver, Cond.code yX3_signOver cX3_signOver 3 (some .int), Cond.methodLink RL 51 yX5_at, Cond.instanceMethod yX5_at, Cond.selects RX5 yX5_at yX5_at, Cond.code yX5_at cX5_at 5 (some .int), Cond.methodLink RL 52 yX4_write, Cond.instanceMethod yX4_write, Cond.selects RX4 yX4_write yX4_write, Cond.code yX4_write cX4_write 7 (some .int), Cond.constant RX4 98 (65279), Cond.methodLink RX4 95 yX4_isWritable, Cond.static yX4_isWritable, Cond.code yX4_isWritable cX4_isWritable 1 (some .boolean), Cond.methodLink RX4 99 yX4_bytesIn, Cond.static yX4_bytesIn, Cond.code yX4_bytesIn cX4_bytesIn 2 (some .int), Cond.constant RX4 133 (65536), Cond.methodLink RX4 145 yX4_bytesBelowHalved, Cond.static yX4_bytesBelowHalved, Cond.code yX4_bytesBelowHalved cX4_bytesBelowHalved 1 (some .int), Cond.methodLink RX4 102 yX3_bytesInForm]
def wsL_law_r17 : List Cond := [Cond.instanceMethod yX3_bytesInForm, Cond.selects RX3 yX3_bytesInForm yX3_bytesInForm, Cond.code yX3_bytesInForm cX3_bytesInForm 6 (some .int), Cond.methodLink RX4 106 yX1_addSign, Cond.instanceMethod yX1_addSign, Cond.selects RX1 yX1_addSign yX1_addSign, Cond.code yX1_addSign cX1_addSign 4 none, Cond.constant RX1 19 (65536), Cond.methodLink RX1 20 yX0_firstOf, Cond.static yX0_firstOf, Cond.code yX0_firstOf cX0_firstOf 1 (some .int), Cond.methodLink RX1 26 yX1_addNumber, Cond.instanceMethod yX1_addNumber, Cond.selects RX1 yX1_addNumber yX1_addNumber, Cond.code yX1_addNumber cX1_addNumber 4 none, Cond.methodLink RX1 37 yX1_addBytes, Cond.instanceMethod yX1_addBytes, Cond.selects RX1 yX1_addBytes yX1_addBytes, Cond.code yX1_addBytes cX1_addBytes 4 none, Cond.methodLink RX1 46 yX1_add, Cond.instanceMethod yX1_add, Cond.selects RX1 yX1_add yX1_add, Cond.code yX1_add cX1_add 2 none, Cond.methodLink RX1 50 yX1_leadOf]
def wsL_law_r18 : List Cond := [Cond.static yX1_leadOf, Cond.code yX1_leadOf cX1_leadOf 1 (some .int), Cond.methodLink RX1 40 yX1_addLowFirst, Cond.instanceMethod yX1_addLowFirst, Cond.selects RX1 yX1_addLowFirst yX1_addLowFirst, Cond.code yX1_addLowFirst cX1_addLowFirst 4 none, Cond.methodLink RX1 43 yX1_addHighFirst, Cond.instanceMethod yX1_addHighFirst, Cond.selects RX1 yX1_addHighFirst yX1_addHighFirst, Cond.code yX1_addHighFirst cX1_addHighFirst 4 none, Cond.methodLink RX1 30 yX0_secondOf, Cond.static yX0_secondOf, Cond.code yX0_secondOf cX0_secondOf 1 (some .int), Cond.methodLink RL 56 yX5_write, Cond.instanceMethod yX5_write, Cond.selects RX5 yX5_write yX5_write, Cond.code yX5_write cX5_write 6 (some .int), Cond.constant RX5 165 (65279), Cond.fieldLink RX5 149 "SignFormsModel" "written" "I", Cond.methodLink RX5 162 yX5_isForm, Cond.static yX5_isForm, Cond.code yX5_isForm cX5_isForm 1 (some .boolean), Cond.methodLink RX5 166 yX5_sizeOf, Cond.static yX5_sizeOf]
def wsL_law_r19 : List Cond := [Cond.code yX5_sizeOf cX5_sizeOf 3 (some .int), Cond.methodLink RX5 169 yX5_laySign, Cond.instanceMethod yX5_laySign, Cond.selects RX5 yX5_laySign yX5_laySign, Cond.code yX5_laySign cX5_laySign 7 none, Cond.methodLink RX5 152 yX5_lay, Cond.instanceMethod yX5_lay, Cond.selects RX5 yX5_lay yX5_lay, Cond.code yX5_lay cX5_lay 2 none, Cond.methodLink RX5 155 yX5_layUnit, Cond.instanceMethod yX5_layUnit, Cond.selects RX5 yX5_layUnit yX5_layUnit, Cond.code yX5_layUnit cX5_layUnit 3 none, Cond.methodLink RX5 159 yX5_layThree, Cond.instanceMethod yX5_layThree, Cond.selects RX5 yX5_layThree yX5_layThree, Cond.code yX5_layThree cX5_layThree 2 none, Cond.methodLink RL 57 yX4_size, Cond.instanceMethod yX4_size, Cond.selects RX4 yX4_size yX4_size, Cond.code yX4_size cX4_size 6 (some .int), Cond.methodLink RL 61 yX5_size, Cond.instanceMethod yX5_size, Cond.selects RX5 yX5_size yX5_size]
def wsL_law_r20 : List Cond := [Cond.code yX5_size cX5_size 7 (some .int), Cond.methodLink RL 62 yX4_out, Cond.instanceMethod yX4_out, Cond.selects RX4 yX4_out yX4_out, Cond.code yX4_out cX4_out 2 (some .int), Cond.methodLink RL 65 yX5_out, Cond.instanceMethod yX5_out, Cond.selects RX5 yX5_out yX5_out, Cond.code yX5_out cX5_out 2 (some .int), Cond.methodLink RL 66 yX4_check, Cond.instanceMethod yX4_check, Cond.selects RX4 yX4_check yX4_check, Cond.code yX4_check cX4_check 4 (some .int), Cond.fieldLink RX4 109 "SignForms$OutRow" "bytes" "[I", Cond.fieldLink RX4 116 "SignForms$Part" "isSign" "Z", Cond.fieldLink RX4 119 "SignForms$Part" "length" "I", Cond.methodLink RX4 112 yX2_look, Cond.methodLink RL 69 yX5_check, Cond.instanceMethod yX5_check, Cond.selects RX5 yX5_check yX5_check, Cond.code yX5_check cX5_check 3 (some .int), Cond.methodLink RL 70 yX4_order, Cond.instanceMethod yX4_order, Cond.selects RX4 yX4_order yX4_order]
def wsL_law_r21 : List Cond := [Cond.code yX4_order cX4_order 8 (some .int), Cond.methodLink RX4 122 yX4_rank, Cond.static yX4_rank, Cond.code yX4_rank cX4_rank 5 (some .long), Cond.methodLink RX4 134 yX0_firstOf, Cond.methodLink RX4 139 yX0_secondOf, Cond.methodLink RX4 142 yX4_turned, Cond.static yX4_turned, Cond.code yX4_turned cX4_turned 1 (some .int), Cond.methodLink RX4 126 yX4_side, Cond.static yX4_side, Cond.code yX4_side cX4_side 4 (some .int), Cond.methodLink RL 73 yX5_order, Cond.instanceMethod yX5_order, Cond.selects RX5 yX5_order yX5_order, Cond.code yX5_order cX5_order 9 (some .int), Cond.methodLink RX5 172 yX5_compared, Cond.instanceMethod yX5_compared, Cond.selects RX5 yX5_compared yX5_compared, Cond.code yX5_compared cX5_compared 7 (some .int), Cond.methodLink RL 74 yX4_among, Cond.instanceMethod yX4_among, Cond.selects RX4 yX4_among yX4_among, Cond.code yX4_among cX4_among 5 (some .int)]
def wsL_law_r22 : List Cond := [Cond.methodLink RX4 130 yX3_countAmong, Cond.instanceMethod yX3_countAmong, Cond.selects RX3 yX3_countAmong yX3_countAmong, Cond.code yX3_countAmong cX3_countAmong 5 (some .int), Cond.methodLink RL 77 yX5_among, Cond.instanceMethod yX5_among, Cond.selects RX5 yX5_among yX5_among, Cond.code yX5_among cX5_among 7 (some .int)]
def wsL_law : List Cond := (wsL_law_r1 ++ (wsL_law_r2 ++ (wsL_law_r3 ++ (wsL_law_r4 ++ (wsL_law_r5 ++ (wsL_law_r6 ++ (wsL_law_r7 ++ (wsL_law_r8 ++ (wsL_law_r9 ++ (wsL_law_r10 ++ (wsL_law_r11 ++ (wsL_law_r12 ++ (wsL_law_r13 ++ (wsL_law_r14 ++ (wsL_law_r15 ++ (wsL_law_r16 ++ (wsL_law_r17 ++ (wsL_law_r18 ++ (wsL_law_r19 ++ (wsL_law_r20 ++ (wsL_law_r21 ++ wsL_law_r22))))))))))))))))))))) ++ wsX40 ++ wsX50 ++ wsX10 ++ wsX20 ++ wsX30 ++ ([] : List Cond)
abbrev vwCl : List vw_C := [(RX1, TX1, 2), (RX2, TX2, 3), (RX3, TX3, 16), (RX4, TX4, 3), (RX5, TX5, 23)]
end
section
set_option maxRecDepth 20000 in
theorem lq_wsL_law_r1 : ∀ w ∈ wsL_law_r1, w ∈ lw_tbl := fun w h => (goodIn_r wsL_law_r1 [47, 48, 40, 428, 429, 43, 660, 49, 50, 51, 52, 53, 54, 55, 94, 57, 58, 41, 95, 73, 74, 42, 96, 59] (by decide +kernel) (by decide +kernel) w h).1
set_option maxRecDepth 20000 in
theorem lq_wsL_law_r2 : ∀ w ∈ wsL_law_r2, w ∈ lw_tbl := fun w h => (goodIn_r wsL_law_r2 [60, 61, 62, 72, 63, 65, 76, 77, 78, 430, 431, 432, 433, 504, 434, 435, 436, 437, 438, 439, 440, 441, 442, 443] (by decide +kernel) (by decide +kernel) w h).1
set_option maxRecDepth 20000 in
theorem lq_wsL_law_r3 : ∀ w ∈ wsL_law_r3, w ∈ lw_tbl := fun w h => (goodIn_r wsL_law_r3 [444, 445, 446, 447, 448, 449, 450, 451, 453, 452, 104, 105, 106, 107, 112, 44, 108, 110, 0, 111, 113, 114, 115, 116] (by decide +kernel) (by decide +kernel) w h).1
set_option maxRecDepth 20000 in
theorem lq_wsL_law_r4 : ∀ w ∈ wsL_law_r4, w ∈ lw_tbl := fun w h => (goodIn_r wsL_law_r4 [119, 120, 122, 124, 126, 117, 128, 174, 175, 176, 177, 129, 130, 131, 132, 133, 135, 136, 137, 138, 139, 505, 506, 507] (by decide +kernel) (by decide +kernel) w h).1
set_option maxRecDepth 20000 in
theorem lq_wsL_law_r5 : ∀ w ∈ wsL_law_r5, w ∈ lw_tbl := fun w h => (goodIn_r wsL_law_r5 [508, 509, 510, 511, 512, 514, 19, 515, 455, 454, 572, 516, 518, 20, 519, 520, 522, 21, 523, 524, 526, 22, 527, 562] (by decide +kernel) (by decide +kernel) w h).1
set_option maxRecDepth 20000 in
theorem lq_wsL_law_r6 : ∀ w ∈ wsL_law_r6, w ∈ lw_tbl := fun w h => (goodIn_r wsL_law_r6 [556, 563, 528, 530, 23, 531, 532, 534, 24, 535, 536, 538, 25, 539, 540, 541, 542, 543, 545, 26, 546, 547, 549, 27] (by decide +kernel) (by decide +kernel) w h).1
set_option maxRecDepth 20000 in
theorem lq_wsL_law_r7 : ∀ w ∈ wsL_law_r7, w ∈ lw_tbl := fun w h => (goodIn_r wsL_law_r7 [550, 555, 557, 551, 553, 28, 554, 558, 560, 29, 561, 564, 566, 30, 567, 568, 570, 31, 571, 178, 179, 180, 181, 140] (by decide +kernel) (by decide +kernel) w h).1
set_option maxRecDepth 20000 in
theorem lq_wsL_law_r8 : ∀ w ∈ wsL_law_r8, w ∈ lw_tbl := fun w h => (goodIn_r wsL_law_r8 [134, 182, 183, 184, 185, 186, 187, 188, 189, 190, 191, 192, 193, 194, 196, 1, 197, 198, 200, 202, 203, 45, 204, 205] (by decide +kernel) (by decide +kernel) w h).1
set_option maxRecDepth 20000 in
theorem lq_wsL_law_r9 : ∀ w ∈ wsL_law_r9, w ∈ lw_tbl := fun w h => (goodIn_r wsL_law_r9 [207, 2, 208, 209, 211, 213, 3, 214, 85, 80, 83, 215, 216, 217, 218, 84, 219, 221, 4, 222, 79, 82, 223, 225] (by decide +kernel) (by decide +kernel) w h).1
set_option maxRecDepth 20000 in
theorem lq_wsL_law_r10 : ∀ w ∈ wsL_law_r10, w ∈ lw_tbl := fun w h => (goodIn_r wsL_law_r10 [5, 226, 227, 228, 229, 230, 232, 6, 233, 234, 235, 236, 237, 238, 239, 240, 241, 46, 242, 243, 244, 245, 247, 7] (by decide +kernel) (by decide +kernel) w h).1
set_option maxRecDepth 20000 in
theorem lq_wsL_law_r11 : ∀ w ∈ wsL_law_r11, w ∈ lw_tbl := fun w h => (goodIn_r wsL_law_r11 [248, 249, 251, 253, 254, 255, 256, 257, 258, 259, 261, 8, 262, 263, 265, 9, 266, 267, 268, 269, 270, 271, 272, 273] (by decide +kernel) (by decide +kernel) w h).1
set_option maxRecDepth 20000 in
theorem lq_wsL_law_r12 : ∀ w ∈ wsL_law_r12, w ∈ lw_tbl := fun w h => (goodIn_r wsL_law_r12 [274, 276, 10, 277, 278, 279, 280, 281, 282, 283, 285, 11, 286, 287, 289, 12, 290, 291, 573, 574, 575, 576, 577, 579] (by decide +kernel) (by decide +kernel) w h).1
set_option maxRecDepth 20000 in
theorem lq_wsL_law_r13 : ∀ w ∈ wsL_law_r13, w ∈ lw_tbl := fun w h => (goodIn_r wsL_law_r13 [32, 580, 292, 293, 294, 295, 66, 296, 297, 298, 299, 300, 581, 582, 583, 584, 301, 302, 303, 304, 585, 586, 587, 588] (by decide +kernel) (by decide +kernel) w h).1
set_option maxRecDepth 20000 in
theorem lq_wsL_law_r14 : ∀ w ∈ wsL_law_r14, w ∈ lw_tbl := fun w h => (goodIn_r wsL_law_r14 [305, 306, 307, 308, 309, 310, 311, 312, 589, 590, 591, 592, 313, 314, 315, 316, 121, 317, 319, 13, 320, 321, 322, 323] (by decide +kernel) (by decide +kernel) w h).1
set_option maxRecDepth 20000 in
theorem lq_wsL_law_r15 : ∀ w ∈ wsL_law_r15, w ∈ lw_tbl := fun w h => (goodIn_r wsL_law_r15 [324, 593, 594, 595, 596, 597, 599, 33, 600, 325, 326, 327, 328, 123, 125, 127, 601, 602, 603, 604, 329, 330, 331, 332] (by decide +kernel) (by decide +kernel) w h).1
set_option maxRecDepth 20000 in
theorem lq_wsL_law_r16 : ∀ w ∈ wsL_law_r16, w ∈ lw_tbl := fun w h => (goodIn_r wsL_law_r16 [333, 334, 335, 336, 605, 606, 607, 608, 337, 338, 339, 340, 344, 341, 342, 343, 345, 346, 347, 348, 349, 350, 351, 352] (by decide +kernel) (by decide +kernel) w h).1
set_option maxRecDepth 20000 in
theorem lq_wsL_law_r17 : ∀ w ∈ wsL_law_r17, w ∈ lw_tbl := fun w h => (goodIn_r wsL_law_r17 [353, 354, 355, 357, 358, 359, 360, 361, 362, 363, 364, 365, 367, 14, 368, 370, 372, 15, 373, 374, 376, 16, 377, 378] (by decide +kernel) (by decide +kernel) w h).1
set_option maxRecDepth 20000 in
theorem lq_wsL_law_r18 : ∀ w ∈ wsL_law_r18, w ∈ lw_tbl := fun w h => (goodIn_r wsL_law_r18 [379, 380, 381, 383, 17, 384, 385, 387, 18, 388, 389, 390, 391, 609, 610, 611, 612, 616, 456, 613, 614, 615, 617, 618] (by decide +kernel) (by decide +kernel) w h).1
set_option maxRecDepth 20000 in
theorem lq_wsL_law_r19 : ∀ w ∈ wsL_law_r19, w ∈ lw_tbl := fun w h => (goodIn_r wsL_law_r19 [619, 620, 622, 34, 623, 624, 626, 35, 627, 628, 630, 36, 631, 632, 634, 37, 635, 392, 393, 394, 395, 636, 637, 638] (by decide +kernel) (by decide +kernel) w h).1
set_option maxRecDepth 20000 in
theorem lq_wsL_law_r20 : ∀ w ∈ wsL_law_r20, w ∈ lw_tbl := fun w h => (goodIn_r wsL_law_r20 [639, 396, 397, 398, 399, 640, 641, 642, 643, 400, 401, 402, 403, 64, 81, 86, 404, 644, 645, 646, 647, 405, 406, 407] (by decide +kernel) (by decide +kernel) w h).1
set_option maxRecDepth 20000 in
theorem lq_wsL_law_r21 : ∀ w ∈ wsL_law_r21, w ∈ lw_tbl := fun w h => (goodIn_r wsL_law_r21 [408, 409, 410, 411, 412, 413, 414, 415, 416, 417, 418, 419, 648, 649, 650, 651, 652, 654, 38, 655, 420, 421, 422, 423] (by decide +kernel) (by decide +kernel) w h).1
set_option maxRecDepth 20000 in
theorem lq_wsL_law_r22 : ∀ w ∈ wsL_law_r22, w ∈ lw_tbl := fun w h => (goodIn_r wsL_law_r22 [424, 425, 426, 427, 656, 657, 658, 659] (by decide +kernel) (by decide +kernel) w h).1
set_option maxRecDepth 20000 in
theorem lq_wsX10 : ∀ w ∈ wsX10, w ∈ lw_tbl := fun w h => (goodIn_r wsX10 [67, 69] (by decide +kernel) (by decide +kernel) w h).1
set_option maxRecDepth 20000 in
theorem lq_wsX20 : ∀ w ∈ wsX20, w ∈ lw_tbl := fun w h => (goodIn_r wsX20 [87, 89, 91] (by decide +kernel) (by decide +kernel) w h).1
set_option maxRecDepth 20000 in
theorem lq_wsX30 : ∀ w ∈ wsX30, w ∈ lw_tbl := fun w h => (goodIn_r wsX30 [141, 143, 145, 147, 149, 151, 153, 155, 157, 159, 161, 163, 165, 167, 169, 171] (by decide +kernel) (by decide +kernel) w h).1
set_option maxRecDepth 20000 in
theorem lq_wsX40 : ∀ w ∈ wsX40, w ∈ lw_tbl := fun w h => (goodIn_r wsX40 [97, 99, 101] (by decide +kernel) (by decide +kernel) w h).1
set_option maxRecDepth 20000 in
theorem lq_wsX50 : ∀ w ∈ wsX50, w ∈ lw_tbl := fun w h => (goodIn_r wsX50 [457, 459, 461, 463, 465, 467, 469, 471, 473, 475, 477, 479, 481, 483, 485, 487, 489, 491, 493, 495, 497, 499, 501] (by decide +kernel) (by decide +kernel) w h).1
theorem wsL_law_in : ∀ w ∈ wsL_law, w ∈ lw_tbl := (fun w h => (List.mem_append.mp h).elim ((fun w h => (List.mem_append.mp h).elim ((fun w h => (List.mem_append.mp h).elim ((fun w h => (List.mem_append.mp h).elim ((fun w h => (List.mem_append.mp h).elim ((fun w h => (List.mem_append.mp h).elim ((fun w h => (List.mem_append.mp h).elim (lq_wsL_law_r1 w) ((fun w h => (List.mem_append.mp h).elim (lq_wsL_law_r2 w) ((fun w h => (List.mem_append.mp h).elim (lq_wsL_law_r3 w) ((fun w h => (List.mem_append.mp h).elim (lq_wsL_law_r4 w) ((fun w h => (List.mem_append.mp h).elim (lq_wsL_law_r5 w) ((fun w h => (List.mem_append.mp h).elim (lq_wsL_law_r6 w) ((fun w h => (List.mem_append.mp h).elim (lq_wsL_law_r7 w) ((fun w h => (List.mem_append.mp h).elim (lq_wsL_law_r8 w) ((fun w h => (List.mem_append.mp h).elim (lq_wsL_law_r9 w) ((fun w h => (List.mem_append.mp h).elim (lq_wsL_law_r10 w) ((fun w h => (List.mem_append.mp h).elim (lq_wsL_law_r11 w) ((fun w h => (List.mem_append.mp h).elim (lq_wsL_law_r12 w) ((fun w h => (List.mem_append.mp h).elim (lq_wsL_law_r13 w) ((fun w h => (List.mem_append.mp h).elim (lq_wsL_law_r14 w) ((fun w h => (List.mem_append.mp h).elim (lq_wsL_law_r15 w) ((fun w h => (List.mem_append.mp h).elim (lq_wsL_law_r16 w) ((fun w h => (List.mem_append.mp h).elim (lq_wsL_law_r17 w) ((fun w h => (List.mem_append.mp h).elim (lq_wsL_law_r18 w) ((fun w h => (List.mem_append.mp h).elim (lq_wsL_law_r19 w) ((fun w h => (List.mem_append.mp h).elim (lq_wsL_law_r20 w) ((fun w h => (List.mem_append.mp h).elim (lq_wsL_law_r21 w) (lq_wsL_law_r22 w)) w)) w)) w)) w)) w)) w)) w)) w)) w)) w)) w)) w)) w)) w)) w)) w)) w)) w)) w)) w)) w) (lq_wsX40 w)) w) (lq_wsX50 w)) w) (lq_wsX10 w)) w) (lq_wsX20 w)) w) (lq_wsX30 w)) w) ((fun _ h => absurd h List.not_mem_nil : ∀ w ∈ ([] : List Cond), w ∈ lw_tbl) w))
theorem inlX1 : ∀ w ∈ wsX10, w ∈ wsL_law := fun _ h => List.mem_append_left _ (List.mem_append_left _ (List.mem_append_left _ (List.mem_append_right _ h)))
theorem inX1 : ∀ w ∈ wsX10, w ∈ lw_tbl := fun w h => wsL_law_in w (inlX1 w h)
theorem inlX2 : ∀ w ∈ wsX20, w ∈ wsL_law := fun _ h => List.mem_append_left _ (List.mem_append_left _ (List.mem_append_right _ h))
theorem inX2 : ∀ w ∈ wsX20, w ∈ lw_tbl := fun w h => wsL_law_in w (inlX2 w h)
theorem inlX3 : ∀ w ∈ wsX30, w ∈ wsL_law := fun _ h => List.mem_append_left _ (List.mem_append_right _ h)
theorem inX3 : ∀ w ∈ wsX30, w ∈ lw_tbl := fun w h => wsL_law_in w (inlX3 w h)
theorem inlX4 : ∀ w ∈ wsX40, w ∈ wsL_law := fun _ h => List.mem_append_left _ (List.mem_append_left _ (List.mem_append_left _ (List.mem_append_left _ (List.mem_append_left _ (List.mem_append_right _ h)))))
theorem inX4 : ∀ w ∈ wsX40, w ∈ lw_tbl := fun w h => wsL_law_in w (inlX4 w h)
theorem inlX5 : ∀ w ∈ wsX50, w ∈ wsL_law := fun _ h => List.mem_append_left _ (List.mem_append_left _ (List.mem_append_left _ (List.mem_append_left _ (List.mem_append_right _ h))))
theorem inX5 : ∀ w ∈ wsX50, w ∈ lw_tbl := fun w h => wsL_law_in w (inlX5 w h)
end
section
theorem dX1_byteAt_0 : decode cX1_byteAt 0 = .ok (.iload_n 1, 1) := by decide +kernel
theorem dX1_byteAt_1 : decode cX1_byteAt 1 = .ok (.ifCond .lt 20, 3) := by decide +kernel
theorem dX1_byteAt_4 : decode cX1_byteAt 4 = .ok (.iload_n 1, 1) := by decide +kernel
theorem dX1_byteAt_5 : decode cX1_byteAt 5 = .ok (.aload_n 0, 1) := by decide +kernel
theorem dX1_byteAt_6 : decode cX1_byteAt 6 = .ok (.getfield 15, 3) := by decide +kernel
theorem dX1_byteAt_9 : decode cX1_byteAt 9 = .ok (.if_icmp .ge 12, 3) := by decide +kernel
theorem dX1_byteAt_21 : decode cX1_byteAt 21 = .ok (.iconst (-1), 1) := by decide +kernel
theorem dX1_byteAt_22 : decode cX1_byteAt 22 = .ok (.ireturn, 1) := by decide +kernel
set_option maxRecDepth 20000 in
theorem ggX4_put_X4_isStream : GoodIn wsX4_put wsX4_isStream := goodIn_r _ [8, 1, 140, 141, 142] (by decide +kernel) (by decide +kernel)
set_option maxRecDepth 20000 in
theorem gX4_put_X4_isStream : GoodIn wsX4_put (wsV RX4 29 RX4 yX4_isStream wsX4_isStream) := goodIn_app (goodIn_of _ (by decide +kernel)) ggX4_put_X4_isStream
theorem dX4_put_0 : decode cX4_put 0 = .ok (.aload_n 0, 1) := by decide +kernel
theorem dX4_put_1 : decode cX4_put 1 = .ok (.iload_n 1, 1) := by decide +kernel
theorem dX4_put_2 : decode cX4_put 2 = .ok (.invokevirtual 29, 3) := by decide +kernel
theorem dX4_put_5 : decode cX4_put 5 = .ok (.ifCond .eq 16, 3) := by decide +kernel
theorem dX4_put_8 : decode cX4_put 8 = .ok (.iload 4, 2) := by decide +kernel
theorem dX4_put_10 : decode cX4_put 10 = .ok (.iconst 1, 1) := by decide +kernel
theorem dX4_put_11 : decode cX4_put 11 = .ok (.if_icmp .lt 10, 3) := by decide +kernel
theorem dX4_put_14 : decode cX4_put 14 = .ok (.iload 4, 2) := by decide +kernel
theorem dX4_put_16 : decode cX4_put 16 = .ok (.bipush 8, 2) := by decide +kernel
theorem dX4_put_18 : decode cX4_put 18 = .ok (.if_icmp .le 5, 3) := by decide +kernel
theorem dX4_put_21 : decode cX4_put 21 = .ok (.iconst (-1), 1) := by decide +kernel
theorem dX4_put_22 : decode cX4_put 22 = .ok (.ireturn, 1) := by decide +kernel
theorem dX4_put_23 : decode cX4_put 23 = .ok (.aload_n 0, 1) := by decide +kernel
theorem dX4_put_24 : decode cX4_put 24 = .ok (.getfield 11, 3) := by decide +kernel
theorem dX4_put_27 : decode cX4_put 27 = .ok (.iload_n 1, 1) := by decide +kernel
theorem dX4_put_28 : decode cX4_put 28 = .ok (.aaload, 1) := by decide +kernel
theorem dX4_put_29 : decode cX4_put 29 = .ok (.astore 5, 2) := by decide +kernel
theorem dX4_put_31 : decode cX4_put 31 = .ok (.aload 5, 2) := by decide +kernel
theorem dX4_put_33 : decode cX4_put 33 = .ok (.ifnull 11, 3) := by decide +kernel
theorem dX4_put_44 : decode cX4_put 44 = .ok (.bipush (-2), 2) := by decide +kernel
theorem dX4_put_46 : decode cX4_put 46 = .ok (.ireturn, 1) := by decide +kernel
set_option maxRecDepth 20000 in
theorem ggX4_pour_X4_isStream : GoodIn wsX4_pour wsX4_isStream := goodIn_r _ [13, 3, 149, 150, 151] (by decide +kernel) (by decide +kernel)
set_option maxRecDepth 20000 in
theorem gX4_pour_X4_isStream : GoodIn wsX4_pour (wsV RX4 29 RX4 yX4_isStream wsX4_isStream) := goodIn_app (goodIn_of _ (by decide +kernel)) ggX4_pour_X4_isStream
theorem dX4_pour_0 : decode cX4_pour 0 = .ok (.aload_n 0, 1) := by decide +kernel
theorem dX4_pour_1 : decode cX4_pour 1 = .ok (.iload_n 1, 1) := by decide +kernel
theorem dX4_pour_2 : decode cX4_pour 2 = .ok (.invokevirtual 29, 3) := by decide +kernel
theorem dX4_pour_5 : decode cX4_pour 5 = .ok (.ifCond .eq 22, 3) := by decide +kernel
theorem dX4_pour_8 : decode cX4_pour 8 = .ok (.iload_n 2, 1) := by decide +kernel
theorem dX4_pour_9 : decode cX4_pour 9 = .ok (.ifCond .lt 18, 3) := by decide +kernel
theorem dX4_pour_12 : decode cX4_pour 12 = .ok (.iload_n 2, 1) := by decide +kernel
theorem dX4_pour_13 : decode cX4_pour 13 = .ok (.aload_n 0, 1) := by decide +kernel
theorem dX4_pour_14 : decode cX4_pour 14 = .ok (.getfield 18, 3) := by decide +kernel
theorem dX4_pour_17 : decode cX4_pour 17 = .ok (.getfield 56, 3) := by decide +kernel
theorem dX4_pour_20 : decode cX4_pour 20 = .ok (.if_icmp .gt 7, 3) := by decide +kernel
theorem dX4_pour_23 : decode cX4_pour 23 = .ok (.iload_n 3, 1) := by decide +kernel
theorem dX4_pour_24 : decode cX4_pour 24 = .ok (.ifCond .ge 5, 3) := by decide +kernel
theorem dX4_pour_27 : decode cX4_pour 27 = .ok (.iconst (-1), 1) := by decide +kernel
theorem dX4_pour_28 : decode cX4_pour 28 = .ok (.ireturn, 1) := by decide +kernel
theorem dX4_pour_29 : decode cX4_pour 29 = .ok (.aload_n 0, 1) := by decide +kernel
theorem dX4_pour_30 : decode cX4_pour 30 = .ok (.getfield 11, 3) := by decide +kernel
theorem dX4_pour_33 : decode cX4_pour 33 = .ok (.iload_n 1, 1) := by decide +kernel
theorem dX4_pour_34 : decode cX4_pour 34 = .ok (.aaload, 1) := by decide +kernel
theorem dX4_pour_35 : decode cX4_pour 35 = .ok (.astore 4, 2) := by decide +kernel
theorem dX4_pour_37 : decode cX4_pour 37 = .ok (.aload 4, 2) := by decide +kernel
theorem dX4_pour_39 : decode cX4_pour 39 = .ok (.ifnull 11, 3) := by decide +kernel
theorem dX4_pour_50 : decode cX4_pour 50 = .ok (.bipush (-2), 2) := by decide +kernel
theorem dX4_pour_52 : decode cX4_pour 52 = .ok (.ireturn, 1) := by decide +kernel
set_option maxRecDepth 20000 in
theorem ggX4_end_X4_isStream : GoodIn wsX4_end wsX4_isStream := goodIn_r _ [8, 1, 132, 133, 134] (by decide +kernel) (by decide +kernel)
set_option maxRecDepth 20000 in
theorem gX4_end_X4_isStream : GoodIn wsX4_end (wsV RX4 29 RX4 yX4_isStream wsX4_isStream) := goodIn_app (goodIn_of _ (by decide +kernel)) ggX4_end_X4_isStream
theorem dX4_end_0 : decode cX4_end 0 = .ok (.aload_n 0, 1) := by decide +kernel
theorem dX4_end_1 : decode cX4_end 1 = .ok (.iload_n 1, 1) := by decide +kernel
theorem dX4_end_2 : decode cX4_end 2 = .ok (.invokevirtual 29, 3) := by decide +kernel
theorem dX4_end_5 : decode cX4_end 5 = .ok (.ifCond .ne 5, 3) := by decide +kernel
theorem dX4_end_8 : decode cX4_end 8 = .ok (.iconst (-1), 1) := by decide +kernel
theorem dX4_end_9 : decode cX4_end 9 = .ok (.ireturn, 1) := by decide +kernel
theorem dX4_end_10 : decode cX4_end 10 = .ok (.aload_n 0, 1) := by decide +kernel
theorem dX4_end_11 : decode cX4_end 11 = .ok (.getfield 11, 3) := by decide +kernel
theorem dX4_end_14 : decode cX4_end 14 = .ok (.iload_n 1, 1) := by decide +kernel
theorem dX4_end_15 : decode cX4_end 15 = .ok (.aaload, 1) := by decide +kernel
theorem dX4_end_16 : decode cX4_end 16 = .ok (.astore_n 2, 1) := by decide +kernel
theorem dX4_end_17 : decode cX4_end 17 = .ok (.aload_n 2, 1) := by decide +kernel
theorem dX4_end_18 : decode cX4_end 18 = .ok (.ifnull 10, 3) := by decide +kernel
theorem dX4_end_28 : decode cX4_end 28 = .ok (.bipush (-2), 2) := by decide +kernel
theorem dX4_end_30 : decode cX4_end 30 = .ok (.ireturn, 1) := by decide +kernel
set_option maxRecDepth 20000 in
theorem ggX4_about_X4_isStream : GoodIn wsX4_about wsX4_isStream := goodIn_r _ [6, 1, 21, 22, 23] (by decide +kernel) (by decide +kernel)
set_option maxRecDepth 20000 in
theorem gX4_about_X4_isStream : GoodIn wsX4_about (wsV RX4 29 RX4 yX4_isStream wsX4_isStream) := goodIn_app (goodIn_of _ (by decide +kernel)) ggX4_about_X4_isStream
theorem dX4_about_0 : decode cX4_about 0 = .ok (.aload_n 0, 1) := by decide +kernel
theorem dX4_about_1 : decode cX4_about 1 = .ok (.iload_n 1, 1) := by decide +kernel
theorem dX4_about_2 : decode cX4_about 2 = .ok (.invokevirtual 29, 3) := by decide +kernel
theorem dX4_about_5 : decode cX4_about 5 = .ok (.ifCond .eq 13, 3) := by decide +kernel
theorem dX4_about_8 : decode cX4_about 8 = .ok (.iload_n 2, 1) := by decide +kernel
theorem dX4_about_9 : decode cX4_about 9 = .ok (.ifCond .lt 9, 3) := by decide +kernel
theorem dX4_about_12 : decode cX4_about 12 = .ok (.iload_n 2, 1) := by decide +kernel
theorem dX4_about_13 : decode cX4_about 13 = .ok (.bipush 8, 2) := by decide +kernel
theorem dX4_about_15 : decode cX4_about 15 = .ok (.if_icmp .le 5, 3) := by decide +kernel
theorem dX4_about_18 : decode cX4_about 18 = .ok (.iconst (-1), 1) := by decide +kernel
theorem dX4_about_19 : decode cX4_about 19 = .ok (.ireturn, 1) := by decide +kernel
theorem dX4_about_20 : decode cX4_about 20 = .ok (.aload_n 0, 1) := by decide +kernel
theorem dX4_about_21 : decode cX4_about 21 = .ok (.getfield 11, 3) := by decide +kernel
theorem dX4_about_24 : decode cX4_about 24 = .ok (.iload_n 1, 1) := by decide +kernel
theorem dX4_about_25 : decode cX4_about 25 = .ok (.aaload, 1) := by decide +kernel
theorem dX4_about_26 : decode cX4_about 26 = .ok (.astore_n 3, 1) := by decide +kernel
theorem dX4_about_27 : decode cX4_about 27 = .ok (.aload_n 3, 1) := by decide +kernel
theorem dX4_about_28 : decode cX4_about 28 = .ok (.ifnonnull 8, 3) := by decide +kernel
theorem dX4_about_31 : decode cX4_about 31 = .ok (.bipush (-2), 2) := by decide +kernel
theorem dX4_about_33 : decode cX4_about 33 = .ok (.goto 8, 3) := by decide +kernel
theorem dX4_about_41 : decode cX4_about 41 = .ok (.ireturn, 1) := by decide +kernel
set_option maxRecDepth 20000 in
theorem ggX4_sign_X4_openStream : GoodIn wsX4_sign wsX4_openStream := goodIn_r _ [6, 7, 8, 9, 10, 5, 11, 34, 35, 36] (by decide +kernel) (by decide +kernel)
set_option maxRecDepth 20000 in
theorem gX4_sign_X4_openStream : GoodIn wsX4_sign (wsV RX4 72 RX4 yX4_openStream wsX4_openStream) := goodIn_app (goodIn_of _ (by decide +kernel)) ggX4_sign_X4_openStream
theorem dX4_sign_0 : decode cX4_sign 0 = .ok (.aload_n 0, 1) := by decide +kernel
theorem dX4_sign_1 : decode cX4_sign 1 = .ok (.iload_n 1, 1) := by decide +kernel
theorem dX4_sign_2 : decode cX4_sign 2 = .ok (.invokevirtual 72, 3) := by decide +kernel
theorem dX4_sign_5 : decode cX4_sign 5 = .ok (.astore_n 3, 1) := by decide +kernel
theorem dX4_sign_6 : decode cX4_sign 6 = .ok (.aload_n 3, 1) := by decide +kernel
theorem dX4_sign_7 : decode cX4_sign 7 = .ok (.ifnull 11, 3) := by decide +kernel
theorem dX4_sign_18 : decode cX4_sign 18 = .ok (.iconst (-1), 1) := by decide +kernel
theorem dX4_sign_19 : decode cX4_sign 19 = .ok (.ireturn, 1) := by decide +kernel
set_option maxRecDepth 20000 in
theorem ggX4_placed_X4_openStream : GoodIn wsX4_placed wsX4_openStream := goodIn_r _ [8, 9, 10, 11, 12, 7, 13, 36, 37, 38] (by decide +kernel) (by decide +kernel)
set_option maxRecDepth 20000 in
theorem gX4_placed_X4_openStream : GoodIn wsX4_placed (wsV RX4 72 RX4 yX4_openStream wsX4_openStream) := goodIn_app (goodIn_of _ (by decide +kernel)) ggX4_placed_X4_openStream
theorem dX4_placed_0 : decode cX4_placed 0 = .ok (.aload_n 0, 1) := by decide +kernel
theorem dX4_placed_1 : decode cX4_placed 1 = .ok (.iload_n 1, 1) := by decide +kernel
theorem dX4_placed_2 : decode cX4_placed 2 = .ok (.invokevirtual 72, 3) := by decide +kernel
theorem dX4_placed_5 : decode cX4_placed 5 = .ok (.astore 4, 2) := by decide +kernel
theorem dX4_placed_7 : decode cX4_placed 7 = .ok (.aload 4, 2) := by decide +kernel
theorem dX4_placed_9 : decode cX4_placed 9 = .ok (.ifnull 12, 3) := by decide +kernel
theorem dX4_placed_21 : decode cX4_placed 21 = .ok (.iconst (-1), 1) := by decide +kernel
theorem dX4_placed_22 : decode cX4_placed 22 = .ok (.ireturn, 1) := by decide +kernel
set_option maxRecDepth 20000 in
theorem ggX4_at_X4_openStream : GoodIn wsX4_at wsX4_openStream := goodIn_r _ [5, 6, 7, 8, 9, 4, 10, 19, 20, 21] (by decide +kernel) (by decide +kernel)
set_option maxRecDepth 20000 in
theorem gX4_at_X4_openStream : GoodIn wsX4_at (wsV RX4 72 RX4 yX4_openStream wsX4_openStream) := goodIn_app (goodIn_of _ (by decide +kernel)) ggX4_at_X4_openStream
theorem dX4_at_0 : decode cX4_at 0 = .ok (.aload_n 0, 1) := by decide +kernel
theorem dX4_at_1 : decode cX4_at 1 = .ok (.iload_n 1, 1) := by decide +kernel
theorem dX4_at_2 : decode cX4_at 2 = .ok (.invokevirtual 72, 3) := by decide +kernel
theorem dX4_at_5 : decode cX4_at 5 = .ok (.astore_n 3, 1) := by decide +kernel
theorem dX4_at_6 : decode cX4_at 6 = .ok (.aload_n 3, 1) := by decide +kernel
theorem dX4_at_7 : decode cX4_at 7 = .ok (.ifnonnull 7, 3) := by decide +kernel
theorem dX4_at_10 : decode cX4_at 10 = .ok (.iconst (-1), 1) := by decide +kernel
theorem dX4_at_11 : decode cX4_at 11 = .ok (.goto 8, 3) := by decide +kernel
theorem dX4_at_19 : decode cX4_at 19 = .ok (.ireturn, 1) := by decide +kernel
set_option maxRecDepth 20000 in
theorem ggX4_write_X4_isStream : GoodIn wsX4_write wsX4_isStream := goodIn_r _ [11, 1, 69, 70, 71] (by decide +kernel) (by decide +kernel)
set_option maxRecDepth 20000 in
theorem gX4_write_X4_isStream : GoodIn wsX4_write (wsV RX4 29 RX4 yX4_isStream wsX4_isStream) := goodIn_app (goodIn_of _ (by decide +kernel)) ggX4_write_X4_isStream
set_option maxRecDepth 20000 in
theorem ggX4_write_X4_isWritable : GoodIn wsX4_write wsX4_isWritable := goodIn_r _ [14] (by decide +kernel) (by decide +kernel)
set_option maxRecDepth 20000 in
theorem gX4_write_X4_isWritable : GoodIn wsX4_write (va_wsS RX4 95 yX4_isWritable wsX4_isWritable) := goodIn_app (goodIn_of _ (by decide +kernel)) ggX4_write_X4_isWritable
theorem dX4_write_0 : decode cX4_write 0 = .ok (.aload_n 0, 1) := by decide +kernel
theorem dX4_write_1 : decode cX4_write 1 = .ok (.iload_n 1, 1) := by decide +kernel
theorem dX4_write_2 : decode cX4_write 2 = .ok (.invokevirtual 29, 3) := by decide +kernel
theorem dX4_write_5 : decode cX4_write 5 = .ok (.ifCond .eq 10, 3) := by decide +kernel
theorem dX4_write_8 : decode cX4_write 8 = .ok (.iload_n 2, 1) := by decide +kernel
theorem dX4_write_9 : decode cX4_write 9 = .ok (.invokestatic 95, 3) := by decide +kernel
theorem dX4_write_12 : decode cX4_write 12 = .ok (.ifCond .ne 5, 3) := by decide +kernel
theorem dX4_write_15 : decode cX4_write 15 = .ok (.iconst (-1), 1) := by decide +kernel
theorem dX4_write_16 : decode cX4_write 16 = .ok (.ireturn, 1) := by decide +kernel
theorem dX4_write_17 : decode cX4_write 17 = .ok (.aload_n 0, 1) := by decide +kernel
theorem dX4_write_18 : decode cX4_write 18 = .ok (.getfield 11, 3) := by decide +kernel
theorem dX4_write_21 : decode cX4_write 21 = .ok (.iload_n 1, 1) := by decide +kernel
theorem dX4_write_22 : decode cX4_write 22 = .ok (.aaload, 1) := by decide +kernel
theorem dX4_write_23 : decode cX4_write 23 = .ok (.astore 4, 2) := by decide +kernel
theorem dX4_write_25 : decode cX4_write 25 = .ok (.aload 4, 2) := by decide +kernel
theorem dX4_write_27 : decode cX4_write 27 = .ok (.ifnonnull 6, 3) := by decide +kernel
theorem dX4_write_30 : decode cX4_write 30 = .ok (.bipush (-2), 2) := by decide +kernel
theorem dX4_write_32 : decode cX4_write 32 = .ok (.ireturn, 1) := by decide +kernel
set_option maxRecDepth 20000 in
theorem ggX4_size_X4_isStream : GoodIn wsX4_size wsX4_isStream := goodIn_r _ [7, 1, 23, 24, 25] (by decide +kernel) (by decide +kernel)
set_option maxRecDepth 20000 in
theorem gX4_size_X4_isStream : GoodIn wsX4_size (wsV RX4 29 RX4 yX4_isStream wsX4_isStream) := goodIn_app (goodIn_of _ (by decide +kernel)) ggX4_size_X4_isStream
set_option maxRecDepth 20000 in
theorem ggX4_size_X4_isWritable : GoodIn wsX4_size wsX4_isWritable := goodIn_r _ [10] (by decide +kernel) (by decide +kernel)
set_option maxRecDepth 20000 in
theorem gX4_size_X4_isWritable : GoodIn wsX4_size (va_wsS RX4 95 yX4_isWritable wsX4_isWritable) := goodIn_app (goodIn_of _ (by decide +kernel)) ggX4_size_X4_isWritable
theorem dX4_size_0 : decode cX4_size 0 = .ok (.aload_n 0, 1) := by decide +kernel
theorem dX4_size_1 : decode cX4_size 1 = .ok (.iload_n 1, 1) := by decide +kernel
theorem dX4_size_2 : decode cX4_size 2 = .ok (.invokevirtual 29, 3) := by decide +kernel
theorem dX4_size_5 : decode cX4_size 5 = .ok (.ifCond .eq 10, 3) := by decide +kernel
theorem dX4_size_8 : decode cX4_size 8 = .ok (.iload_n 2, 1) := by decide +kernel
theorem dX4_size_9 : decode cX4_size 9 = .ok (.invokestatic 95, 3) := by decide +kernel
theorem dX4_size_12 : decode cX4_size 12 = .ok (.ifCond .ne 5, 3) := by decide +kernel
theorem dX4_size_15 : decode cX4_size 15 = .ok (.iconst (-1), 1) := by decide +kernel
theorem dX4_size_16 : decode cX4_size 16 = .ok (.ireturn, 1) := by decide +kernel
theorem dX4_size_17 : decode cX4_size 17 = .ok (.aload_n 0, 1) := by decide +kernel
theorem dX4_size_18 : decode cX4_size 18 = .ok (.getfield 11, 3) := by decide +kernel
theorem dX4_size_21 : decode cX4_size 21 = .ok (.iload_n 1, 1) := by decide +kernel
theorem dX4_size_22 : decode cX4_size 22 = .ok (.aaload, 1) := by decide +kernel
theorem dX4_size_23 : decode cX4_size 23 = .ok (.astore 5, 2) := by decide +kernel
theorem dX4_size_25 : decode cX4_size 25 = .ok (.aload 5, 2) := by decide +kernel
theorem dX4_size_27 : decode cX4_size 27 = .ok (.ifnonnull 6, 3) := by decide +kernel
theorem dX4_size_30 : decode cX4_size 30 = .ok (.bipush (-2), 2) := by decide +kernel
theorem dX4_size_32 : decode cX4_size 32 = .ok (.ireturn, 1) := by decide +kernel
set_option maxRecDepth 20000 in
theorem ggX4_out_X1_byteAt : GoodIn wsX4_out wsX1_byteAt := goodIn_r _ [6, 7, 8, 12, 13] (by decide +kernel) (by decide +kernel)
set_option maxRecDepth 20000 in
theorem gX4_out_X1_byteAt : GoodIn wsX4_out (wsV RX4 65 RX1 yX1_byteAt wsX1_byteAt) := goodIn_app (goodIn_of _ (by decide +kernel)) ggX4_out_X1_byteAt
theorem dX4_out_0 : decode cX4_out 0 = .ok (.aload_n 0, 1) := by decide +kernel
theorem dX4_out_1 : decode cX4_out 1 = .ok (.getfield 18, 3) := by decide +kernel
theorem dX4_out_4 : decode cX4_out 4 = .ok (.iload_n 1, 1) := by decide +kernel
theorem dX4_out_5 : decode cX4_out 5 = .ok (.invokevirtual 65, 3) := by decide +kernel
theorem dX4_out_8 : decode cX4_out 8 = .ok (.ireturn, 1) := by decide +kernel
set_option maxRecDepth 20000 in
theorem ggX4_check_X4_isWritable : GoodIn wsX4_check wsX4_isWritable := goodIn_r _ [10] (by decide +kernel) (by decide +kernel)
set_option maxRecDepth 20000 in
theorem gX4_check_X4_isWritable : GoodIn wsX4_check (va_wsS RX4 95 yX4_isWritable wsX4_isWritable) := goodIn_app (goodIn_of _ (by decide +kernel)) ggX4_check_X4_isWritable
theorem dX4_check_0 : decode cX4_check 0 = .ok (.iload_n 1, 1) := by decide +kernel
theorem dX4_check_1 : decode cX4_check 1 = .ok (.invokestatic 95, 3) := by decide +kernel
theorem dX4_check_4 : decode cX4_check 4 = .ok (.ifCond .ne 5, 3) := by decide +kernel
theorem dX4_check_7 : decode cX4_check 7 = .ok (.iconst (-1), 1) := by decide +kernel
theorem dX4_check_8 : decode cX4_check 8 = .ok (.ireturn, 1) := by decide +kernel
theorem dX4_check_9 : decode cX4_check 9 = .ok (.iconst 0, 1) := by decide +kernel
theorem dX4_check_10 : decode cX4_check 10 = .ok (.istore_n 2, 1) := by decide +kernel
theorem dX4_check_11 : decode cX4_check 11 = .ok (.iconst 0, 1) := by decide +kernel
theorem dX4_check_12 : decode cX4_check 12 = .ok (.istore_n 3, 1) := by decide +kernel
theorem dX4_check_13 : decode cX4_check 13 = .ok (.iload_n 3, 1) := by decide +kernel
theorem dX4_check_14 : decode cX4_check 14 = .ok (.sipush 6000, 3) := by decide +kernel
theorem dX4_check_17 : decode cX4_check 17 = .ok (.if_icmp .ge 66, 3) := by decide +kernel
theorem dX4_check_20 : decode cX4_check 20 = .ok (.iload_n 2, 1) := by decide +kernel
theorem dX4_check_21 : decode cX4_check 21 = .ok (.aload_n 0, 1) := by decide +kernel
theorem dX4_check_22 : decode cX4_check 22 = .ok (.getfield 18, 3) := by decide +kernel
theorem dX4_check_25 : decode cX4_check 25 = .ok (.getfield 56, 3) := by decide +kernel
theorem dX4_check_28 : decode cX4_check 28 = .ok (.if_icmp .ge 55, 3) := by decide +kernel
theorem dX4_check_83 : decode cX4_check 83 = .ok (.bipush (-2), 2) := by decide +kernel
theorem dX4_check_85 : decode cX4_check 85 = .ok (.ireturn, 1) := by decide +kernel
set_option maxRecDepth 20000 in
theorem ggX4_order_X4_isStream : GoodIn wsX4_order wsX4_isStream := goodIn_r _ [12, 1, 33, 34, 35] (by decide +kernel) (by decide +kernel)
set_option maxRecDepth 20000 in
theorem gX4_order_X4_isStream : GoodIn wsX4_order (wsV RX4 29 RX4 yX4_isStream wsX4_isStream) := goodIn_app (goodIn_of _ (by decide +kernel)) ggX4_order_X4_isStream
theorem dX4_order_0 : decode cX4_order 0 = .ok (.aload_n 0, 1) := by decide +kernel
theorem dX4_order_1 : decode cX4_order 1 = .ok (.iload_n 1, 1) := by decide +kernel
theorem dX4_order_2 : decode cX4_order 2 = .ok (.invokevirtual 29, 3) := by decide +kernel
theorem dX4_order_5 : decode cX4_order 5 = .ok (.ifCond .eq 20, 3) := by decide +kernel
theorem dX4_order_8 : decode cX4_order 8 = .ok (.aload_n 0, 1) := by decide +kernel
theorem dX4_order_9 : decode cX4_order 9 = .ok (.iload_n 2, 1) := by decide +kernel
theorem dX4_order_10 : decode cX4_order 10 = .ok (.invokevirtual 29, 3) := by decide +kernel
theorem dX4_order_13 : decode cX4_order 13 = .ok (.ifCond .eq 12, 3) := by decide +kernel
theorem dX4_order_16 : decode cX4_order 16 = .ok (.iload_n 3, 1) := by decide +kernel
theorem dX4_order_17 : decode cX4_order 17 = .ok (.ifCond .lt 8, 3) := by decide +kernel
theorem dX4_order_20 : decode cX4_order 20 = .ok (.iload_n 3, 1) := by decide +kernel
theorem dX4_order_21 : decode cX4_order 21 = .ok (.iconst 2, 1) := by decide +kernel
theorem dX4_order_22 : decode cX4_order 22 = .ok (.if_icmp .le 5, 3) := by decide +kernel
theorem dX4_order_25 : decode cX4_order 25 = .ok (.iconst (-1), 1) := by decide +kernel
theorem dX4_order_26 : decode cX4_order 26 = .ok (.ireturn, 1) := by decide +kernel
theorem dX4_order_27 : decode cX4_order 27 = .ok (.aload_n 0, 1) := by decide +kernel
theorem dX4_order_28 : decode cX4_order 28 = .ok (.getfield 11, 3) := by decide +kernel
theorem dX4_order_31 : decode cX4_order 31 = .ok (.iload_n 1, 1) := by decide +kernel
theorem dX4_order_32 : decode cX4_order 32 = .ok (.aaload, 1) := by decide +kernel
theorem dX4_order_33 : decode cX4_order 33 = .ok (.astore 4, 2) := by decide +kernel
theorem dX4_order_35 : decode cX4_order 35 = .ok (.aload_n 0, 1) := by decide +kernel
theorem dX4_order_36 : decode cX4_order 36 = .ok (.getfield 11, 3) := by decide +kernel
theorem dX4_order_39 : decode cX4_order 39 = .ok (.iload_n 2, 1) := by decide +kernel
theorem dX4_order_40 : decode cX4_order 40 = .ok (.aaload, 1) := by decide +kernel
theorem dX4_order_41 : decode cX4_order 41 = .ok (.astore 5, 2) := by decide +kernel
theorem dX4_order_43 : decode cX4_order 43 = .ok (.aload 4, 2) := by decide +kernel
theorem dX4_order_45 : decode cX4_order 45 = .ok (.ifnull 8, 3) := by decide +kernel
theorem dX4_order_53 : decode cX4_order 53 = .ok (.bipush (-2), 2) := by decide +kernel
theorem dX4_order_55 : decode cX4_order 55 = .ok (.ireturn, 1) := by decide +kernel
set_option maxRecDepth 20000 in
theorem ggX4_among_X4_isStream : GoodIn wsX4_among wsX4_isStream := goodIn_r _ [6, 1, 14, 15, 16] (by decide +kernel) (by decide +kernel)
set_option maxRecDepth 20000 in
theorem gX4_among_X4_isStream : GoodIn wsX4_among (wsV RX4 29 RX4 yX4_isStream wsX4_isStream) := goodIn_app (goodIn_of _ (by decide +kernel)) ggX4_among_X4_isStream
theorem dX4_among_0 : decode cX4_among 0 = .ok (.aload_n 0, 1) := by decide +kernel
theorem dX4_among_1 : decode cX4_among 1 = .ok (.iload_n 1, 1) := by decide +kernel
theorem dX4_among_2 : decode cX4_among 2 = .ok (.invokevirtual 29, 3) := by decide +kernel
theorem dX4_among_5 : decode cX4_among 5 = .ok (.ifCond .ne 5, 3) := by decide +kernel
theorem dX4_among_8 : decode cX4_among 8 = .ok (.iconst (-1), 1) := by decide +kernel
theorem dX4_among_9 : decode cX4_among 9 = .ok (.ireturn, 1) := by decide +kernel
theorem dX4_among_10 : decode cX4_among 10 = .ok (.aload_n 0, 1) := by decide +kernel
theorem dX4_among_11 : decode cX4_among 11 = .ok (.getfield 11, 3) := by decide +kernel
theorem dX4_among_14 : decode cX4_among 14 = .ok (.iload_n 1, 1) := by decide +kernel
theorem dX4_among_15 : decode cX4_among 15 = .ok (.aaload, 1) := by decide +kernel
theorem dX4_among_16 : decode cX4_among 16 = .ok (.astore 4, 2) := by decide +kernel
theorem dX4_among_18 : decode cX4_among 18 = .ok (.aload 4, 2) := by decide +kernel
theorem dX4_among_20 : decode cX4_among 20 = .ok (.ifnonnull 8, 3) := by decide +kernel
theorem dX4_among_23 : decode cX4_among 23 = .ok (.bipush (-2), 2) := by decide +kernel
theorem dX4_among_25 : decode cX4_among 25 = .ok (.goto 10, 3) := by decide +kernel
theorem dX4_among_35 : decode cX4_among 35 = .ok (.ireturn, 1) := by decide +kernel
theorem dX4_isStream_0 : decode cX4_isStream 0 = .ok (.iload_n 1, 1) := by decide +kernel
theorem dX4_isStream_1 : decode cX4_isStream 1 = .ok (.ifCond .lt 16, 3) := by decide +kernel
theorem dX4_isStream_4 : decode cX4_isStream 4 = .ok (.iload_n 1, 1) := by decide +kernel
theorem dX4_isStream_5 : decode cX4_isStream 5 = .ok (.aload_n 0, 1) := by decide +kernel
theorem dX4_isStream_6 : decode cX4_isStream 6 = .ok (.getfield 11, 3) := by decide +kernel
theorem dX4_isStream_9 : decode cX4_isStream 9 = .ok (.arraylength, 1) := by decide +kernel
theorem dX4_isStream_10 : decode cX4_isStream 10 = .ok (.if_icmp .ge 7, 3) := by decide +kernel
theorem dX4_isStream_13 : decode cX4_isStream 13 = .ok (.iconst 1, 1) := by decide +kernel
theorem dX4_isStream_14 : decode cX4_isStream 14 = .ok (.goto 4, 3) := by decide +kernel
theorem dX4_isStream_17 : decode cX4_isStream 17 = .ok (.iconst 0, 1) := by decide +kernel
theorem dX4_isStream_18 : decode cX4_isStream 18 = .ok (.ireturn, 1) := by decide +kernel
set_option maxRecDepth 20000 in
theorem ggX4_openStream_X4_isStream : GoodIn wsX4_openStream wsX4_isStream := goodIn_r _ [6, 1, 7, 8, 9] (by decide +kernel) (by decide +kernel)
set_option maxRecDepth 20000 in
theorem gX4_openStream_X4_isStream : GoodIn wsX4_openStream (wsV RX4 29 RX4 yX4_isStream wsX4_isStream) := goodIn_app (goodIn_of _ (by decide +kernel)) ggX4_openStream_X4_isStream
theorem dX4_openStream_0 : decode cX4_openStream 0 = .ok (.aload_n 0, 1) := by decide +kernel
theorem dX4_openStream_1 : decode cX4_openStream 1 = .ok (.iload_n 1, 1) := by decide +kernel
theorem dX4_openStream_2 : decode cX4_openStream 2 = .ok (.invokevirtual 29, 3) := by decide +kernel
theorem dX4_openStream_5 : decode cX4_openStream 5 = .ok (.ifCond .eq 12, 3) := by decide +kernel
theorem dX4_openStream_8 : decode cX4_openStream 8 = .ok (.aload_n 0, 1) := by decide +kernel
theorem dX4_openStream_9 : decode cX4_openStream 9 = .ok (.getfield 11, 3) := by decide +kernel
theorem dX4_openStream_12 : decode cX4_openStream 12 = .ok (.iload_n 1, 1) := by decide +kernel
theorem dX4_openStream_13 : decode cX4_openStream 13 = .ok (.aaload, 1) := by decide +kernel
theorem dX4_openStream_14 : decode cX4_openStream 14 = .ok (.goto 4, 3) := by decide +kernel
theorem dX4_openStream_17 : decode cX4_openStream 17 = .ok (.aconst_null, 1) := by decide +kernel
theorem dX4_openStream_18 : decode cX4_openStream 18 = .ok (.areturn, 1) := by decide +kernel
theorem dX4_isWritable_0 : decode cX4_isWritable 0 = .ok (.iload_n 0, 1) := by decide +kernel
theorem dX4_isWritable_1 : decode cX4_isWritable 1 = .ok (.ifCond .lt 12, 3) := by decide +kernel
theorem dX4_isWritable_4 : decode cX4_isWritable 4 = .ok (.iload_n 0, 1) := by decide +kernel
theorem dX4_isWritable_5 : decode cX4_isWritable 5 = .ok (.iconst 5, 1) := by decide +kernel
theorem dX4_isWritable_6 : decode cX4_isWritable 6 = .ok (.if_icmp .gt 7, 3) := by decide +kernel
theorem dX4_isWritable_9 : decode cX4_isWritable 9 = .ok (.iconst 1, 1) := by decide +kernel
theorem dX4_isWritable_10 : decode cX4_isWritable 10 = .ok (.goto 4, 3) := by decide +kernel
theorem dX4_isWritable_13 : decode cX4_isWritable 13 = .ok (.iconst 0, 1) := by decide +kernel
theorem dX4_isWritable_14 : decode cX4_isWritable 14 = .ok (.ireturn, 1) := by decide +kernel
end
section
theorem dX5_isStream_0 : decode cX5_isStream 0 = .ok (.iload_n 0, 1) := by decide +kernel
theorem dX5_isStream_1 : decode cX5_isStream 1 = .ok (.ifCond .lt 12, 3) := by decide +kernel
theorem dX5_isStream_4 : decode cX5_isStream 4 = .ok (.iload_n 0, 1) := by decide +kernel
theorem dX5_isStream_5 : decode cX5_isStream 5 = .ok (.iconst 4, 1) := by decide +kernel
theorem dX5_isStream_6 : decode cX5_isStream 6 = .ok (.if_icmp .ge 7, 3) := by decide +kernel
theorem dX5_isStream_9 : decode cX5_isStream 9 = .ok (.iconst 1, 1) := by decide +kernel
theorem dX5_isStream_10 : decode cX5_isStream 10 = .ok (.goto 4, 3) := by decide +kernel
theorem dX5_isStream_13 : decode cX5_isStream 13 = .ok (.iconst 0, 1) := by decide +kernel
theorem dX5_isStream_14 : decode cX5_isStream 14 = .ok (.ireturn, 1) := by decide +kernel
theorem dX5_isForm_0 : decode cX5_isForm 0 = .ok (.iload_n 0, 1) := by decide +kernel
theorem dX5_isForm_1 : decode cX5_isForm 1 = .ok (.ifCond .lt 13, 3) := by decide +kernel
theorem dX5_isForm_4 : decode cX5_isForm 4 = .ok (.iload_n 0, 1) := by decide +kernel
theorem dX5_isForm_5 : decode cX5_isForm 5 = .ok (.bipush 6, 2) := by decide +kernel
theorem dX5_isForm_7 : decode cX5_isForm 7 = .ok (.if_icmp .ge 7, 3) := by decide +kernel
theorem dX5_isForm_10 : decode cX5_isForm 10 = .ok (.iconst 1, 1) := by decide +kernel
theorem dX5_isForm_11 : decode cX5_isForm 11 = .ok (.goto 4, 3) := by decide +kernel
theorem dX5_isForm_14 : decode cX5_isForm 14 = .ok (.iconst 0, 1) := by decide +kernel
theorem dX5_isForm_15 : decode cX5_isForm 15 = .ok (.ireturn, 1) := by decide +kernel
theorem dX5_takes_0 : decode cX5_takes 0 = .ok (.aload_n 0, 1) := by decide +kernel
theorem dX5_takes_1 : decode cX5_takes 1 = .ok (.getfield 7, 3) := by decide +kernel
theorem dX5_takes_4 : decode cX5_takes 4 = .ok (.iload_n 1, 1) := by decide +kernel
theorem dX5_takes_5 : decode cX5_takes 5 = .ok (.baload, 1) := by decide +kernel
theorem dX5_takes_6 : decode cX5_takes 6 = .ok (.ifCond .eq 16, 3) := by decide +kernel
theorem dX5_takes_22 : decode cX5_takes 22 = .ok (.iconst 0, 1) := by decide +kernel
theorem dX5_takes_23 : decode cX5_takes 23 = .ok (.ireturn, 1) := by decide +kernel
set_option maxRecDepth 20000 in
theorem ggX5_put_X5_isStream : GoodIn wsX5_put wsX5_isStream := goodIn_r _ [7] (by decide +kernel) (by decide +kernel)
set_option maxRecDepth 20000 in
theorem gX5_put_X5_isStream : GoodIn wsX5_put (va_wsS RX5 134 yX5_isStream wsX5_isStream) := goodIn_app (goodIn_of _ (by decide +kernel)) ggX5_put_X5_isStream
set_option maxRecDepth 20000 in
theorem ggX5_put_X5_takes : GoodIn wsX5_put wsX5_takes := goodIn_r _ [11, 12, 13, 90, 91, 92, 93, 94, 95, 96, 97, 98, 99, 100, 101, 102, 103, 104, 105, 106, 107, 108, 109, 110, 111, 112] (by decide +kernel) (by decide +kernel)
set_option maxRecDepth 20000 in
theorem gX5_put_X5_takes : GoodIn wsX5_put (wsV RX5 142 RX5 yX5_takes wsX5_takes) := goodIn_app (goodIn_of _ (by decide +kernel)) ggX5_put_X5_takes
theorem dX5_put_0 : decode cX5_put 0 = .ok (.iload_n 1, 1) := by decide +kernel
theorem dX5_put_1 : decode cX5_put 1 = .ok (.invokestatic 134, 3) := by decide +kernel
theorem dX5_put_4 : decode cX5_put 4 = .ok (.ifCond .eq 16, 3) := by decide +kernel
theorem dX5_put_7 : decode cX5_put 7 = .ok (.iload 4, 2) := by decide +kernel
theorem dX5_put_9 : decode cX5_put 9 = .ok (.iconst 1, 1) := by decide +kernel
theorem dX5_put_10 : decode cX5_put 10 = .ok (.if_icmp .lt 10, 3) := by decide +kernel
theorem dX5_put_13 : decode cX5_put 13 = .ok (.iload 4, 2) := by decide +kernel
theorem dX5_put_15 : decode cX5_put 15 = .ok (.bipush 8, 2) := by decide +kernel
theorem dX5_put_17 : decode cX5_put 17 = .ok (.if_icmp .le 5, 3) := by decide +kernel
theorem dX5_put_20 : decode cX5_put 20 = .ok (.iconst (-1), 1) := by decide +kernel
theorem dX5_put_21 : decode cX5_put 21 = .ok (.ireturn, 1) := by decide +kernel
theorem dX5_put_22 : decode cX5_put 22 = .ok (.aload_n 0, 1) := by decide +kernel
theorem dX5_put_23 : decode cX5_put 23 = .ok (.iload_n 1, 1) := by decide +kernel
theorem dX5_put_24 : decode cX5_put 24 = .ok (.invokevirtual 142, 3) := by decide +kernel
theorem dX5_put_27 : decode cX5_put 27 = .ok (.ifCond .ne 6, 3) := by decide +kernel
theorem dX5_put_30 : decode cX5_put 30 = .ok (.bipush (-2), 2) := by decide +kernel
theorem dX5_put_32 : decode cX5_put 32 = .ok (.ireturn, 1) := by decide +kernel
set_option maxRecDepth 20000 in
theorem ggX5_pour_X5_isStream : GoodIn wsX5_pour wsX5_isStream := goodIn_r _ [8] (by decide +kernel) (by decide +kernel)
set_option maxRecDepth 20000 in
theorem gX5_pour_X5_isStream : GoodIn wsX5_pour (va_wsS RX5 134 yX5_isStream wsX5_isStream) := goodIn_app (goodIn_of _ (by decide +kernel)) ggX5_pour_X5_isStream
set_option maxRecDepth 20000 in
theorem ggX5_pour_X5_takes : GoodIn wsX5_pour wsX5_takes := goodIn_r _ [12, 13, 14, 92, 93, 94, 95, 96, 97, 98, 99, 100, 101, 102, 103, 104, 105, 106, 107, 108, 109, 110, 111, 112, 113, 114] (by decide +kernel) (by decide +kernel)
set_option maxRecDepth 20000 in
theorem gX5_pour_X5_takes : GoodIn wsX5_pour (wsV RX5 142 RX5 yX5_takes wsX5_takes) := goodIn_app (goodIn_of _ (by decide +kernel)) ggX5_pour_X5_takes
theorem dX5_pour_0 : decode cX5_pour 0 = .ok (.iload_n 1, 1) := by decide +kernel
theorem dX5_pour_1 : decode cX5_pour 1 = .ok (.invokestatic 134, 3) := by decide +kernel
theorem dX5_pour_4 : decode cX5_pour 4 = .ok (.ifCond .eq 19, 3) := by decide +kernel
theorem dX5_pour_7 : decode cX5_pour 7 = .ok (.iload_n 2, 1) := by decide +kernel
theorem dX5_pour_8 : decode cX5_pour 8 = .ok (.ifCond .lt 15, 3) := by decide +kernel
theorem dX5_pour_11 : decode cX5_pour 11 = .ok (.iload_n 2, 1) := by decide +kernel
theorem dX5_pour_12 : decode cX5_pour 12 = .ok (.aload_n 0, 1) := by decide +kernel
theorem dX5_pour_13 : decode cX5_pour 13 = .ok (.getfield 68, 3) := by decide +kernel
theorem dX5_pour_16 : decode cX5_pour 16 = .ok (.if_icmp .gt 7, 3) := by decide +kernel
theorem dX5_pour_19 : decode cX5_pour 19 = .ok (.iload_n 3, 1) := by decide +kernel
theorem dX5_pour_20 : decode cX5_pour 20 = .ok (.ifCond .ge 5, 3) := by decide +kernel
theorem dX5_pour_23 : decode cX5_pour 23 = .ok (.iconst (-1), 1) := by decide +kernel
theorem dX5_pour_24 : decode cX5_pour 24 = .ok (.ireturn, 1) := by decide +kernel
theorem dX5_pour_25 : decode cX5_pour 25 = .ok (.aload_n 0, 1) := by decide +kernel
theorem dX5_pour_26 : decode cX5_pour 26 = .ok (.iload_n 1, 1) := by decide +kernel
theorem dX5_pour_27 : decode cX5_pour 27 = .ok (.invokevirtual 142, 3) := by decide +kernel
theorem dX5_pour_30 : decode cX5_pour 30 = .ok (.ifCond .ne 6, 3) := by decide +kernel
theorem dX5_pour_33 : decode cX5_pour 33 = .ok (.bipush (-2), 2) := by decide +kernel
theorem dX5_pour_35 : decode cX5_pour 35 = .ok (.ireturn, 1) := by decide +kernel
set_option maxRecDepth 20000 in
theorem ggX5_end_X5_isStream : GoodIn wsX5_end wsX5_isStream := goodIn_r _ [6] (by decide +kernel) (by decide +kernel)
set_option maxRecDepth 20000 in
theorem gX5_end_X5_isStream : GoodIn wsX5_end (va_wsS RX5 134 yX5_isStream wsX5_isStream) := goodIn_app (goodIn_of _ (by decide +kernel)) ggX5_end_X5_isStream
set_option maxRecDepth 20000 in
theorem ggX5_end_X5_takes : GoodIn wsX5_end wsX5_takes := goodIn_r _ [10, 11, 1, 90, 91, 92, 93, 94, 95, 96, 97, 98, 99, 100, 101, 102, 103, 104, 105, 106, 107, 108, 109, 110, 111, 112] (by decide +kernel) (by decide +kernel)
set_option maxRecDepth 20000 in
theorem gX5_end_X5_takes : GoodIn wsX5_end (wsV RX5 142 RX5 yX5_takes wsX5_takes) := goodIn_app (goodIn_of _ (by decide +kernel)) ggX5_end_X5_takes
theorem dX5_end_0 : decode cX5_end 0 = .ok (.iload_n 1, 1) := by decide +kernel
theorem dX5_end_1 : decode cX5_end 1 = .ok (.invokestatic 134, 3) := by decide +kernel
theorem dX5_end_4 : decode cX5_end 4 = .ok (.ifCond .ne 5, 3) := by decide +kernel
theorem dX5_end_7 : decode cX5_end 7 = .ok (.iconst (-1), 1) := by decide +kernel
theorem dX5_end_8 : decode cX5_end 8 = .ok (.ireturn, 1) := by decide +kernel
theorem dX5_end_9 : decode cX5_end 9 = .ok (.aload_n 0, 1) := by decide +kernel
theorem dX5_end_10 : decode cX5_end 10 = .ok (.iload_n 1, 1) := by decide +kernel
theorem dX5_end_11 : decode cX5_end 11 = .ok (.invokevirtual 142, 3) := by decide +kernel
theorem dX5_end_14 : decode cX5_end 14 = .ok (.ifCond .ne 6, 3) := by decide +kernel
theorem dX5_end_17 : decode cX5_end 17 = .ok (.bipush (-2), 2) := by decide +kernel
theorem dX5_end_19 : decode cX5_end 19 = .ok (.ireturn, 1) := by decide +kernel
set_option maxRecDepth 20000 in
theorem ggX5_about_X5_isStream : GoodIn wsX5_about wsX5_isStream := goodIn_r _ [14] (by decide +kernel) (by decide +kernel)
set_option maxRecDepth 20000 in
theorem gX5_about_X5_isStream : GoodIn wsX5_about (va_wsS RX5 134 yX5_isStream wsX5_isStream) := goodIn_app (goodIn_of _ (by decide +kernel)) ggX5_about_X5_isStream
theorem dX5_about_0 : decode cX5_about 0 = .ok (.iload_n 1, 1) := by decide +kernel
theorem dX5_about_1 : decode cX5_about 1 = .ok (.invokestatic 134, 3) := by decide +kernel
theorem dX5_about_4 : decode cX5_about 4 = .ok (.ifCond .eq 13, 3) := by decide +kernel
theorem dX5_about_7 : decode cX5_about 7 = .ok (.iload_n 2, 1) := by decide +kernel
theorem dX5_about_8 : decode cX5_about 8 = .ok (.ifCond .lt 9, 3) := by decide +kernel
theorem dX5_about_11 : decode cX5_about 11 = .ok (.iload_n 2, 1) := by decide +kernel
theorem dX5_about_12 : decode cX5_about 12 = .ok (.bipush 8, 2) := by decide +kernel
theorem dX5_about_14 : decode cX5_about 14 = .ok (.if_icmp .le 5, 3) := by decide +kernel
theorem dX5_about_17 : decode cX5_about 17 = .ok (.iconst (-1), 1) := by decide +kernel
theorem dX5_about_18 : decode cX5_about 18 = .ok (.ireturn, 1) := by decide +kernel
theorem dX5_about_19 : decode cX5_about 19 = .ok (.aload_n 0, 1) := by decide +kernel
theorem dX5_about_20 : decode cX5_about 20 = .ok (.getfield 7, 3) := by decide +kernel
theorem dX5_about_23 : decode cX5_about 23 = .ok (.iload_n 1, 1) := by decide +kernel
theorem dX5_about_24 : decode cX5_about 24 = .ok (.baload, 1) := by decide +kernel
theorem dX5_about_25 : decode cX5_about 25 = .ok (.ifCond .ne 6, 3) := by decide +kernel
theorem dX5_about_28 : decode cX5_about 28 = .ok (.bipush (-2), 2) := by decide +kernel
theorem dX5_about_30 : decode cX5_about 30 = .ok (.ireturn, 1) := by decide +kernel
set_option maxRecDepth 20000 in
theorem ggX5_isSign_X5_isStream : GoodIn wsX5_isSign wsX5_isStream := goodIn_r _ [6] (by decide +kernel) (by decide +kernel)
set_option maxRecDepth 20000 in
theorem gX5_isSign_X5_isStream : GoodIn wsX5_isSign (va_wsS RX5 134 yX5_isStream wsX5_isStream) := goodIn_app (goodIn_of _ (by decide +kernel)) ggX5_isSign_X5_isStream
theorem dX5_isSign_0 : decode cX5_isSign 0 = .ok (.iload_n 1, 1) := by decide +kernel
theorem dX5_isSign_1 : decode cX5_isSign 1 = .ok (.invokestatic 134, 3) := by decide +kernel
theorem dX5_isSign_4 : decode cX5_isSign 4 = .ok (.ifCond .eq 30, 3) := by decide +kernel
theorem dX5_isSign_7 : decode cX5_isSign 7 = .ok (.aload_n 0, 1) := by decide +kernel
theorem dX5_isSign_8 : decode cX5_isSign 8 = .ok (.getfield 7, 3) := by decide +kernel
theorem dX5_isSign_11 : decode cX5_isSign 11 = .ok (.iload_n 1, 1) := by decide +kernel
theorem dX5_isSign_12 : decode cX5_isSign 12 = .ok (.baload, 1) := by decide +kernel
theorem dX5_isSign_13 : decode cX5_isSign 13 = .ok (.ifCond .eq 21, 3) := by decide +kernel
theorem dX5_isSign_34 : decode cX5_isSign 34 = .ok (.iconst 0, 1) := by decide +kernel
theorem dX5_isSign_35 : decode cX5_isSign 35 = .ok (.ireturn, 1) := by decide +kernel
set_option maxRecDepth 20000 in
theorem ggX5_sign_X5_isSign : GoodIn wsX5_sign wsX5_isSign := goodIn_r _ [6, 7, 8, 9, 10, 5, 11, 12, 13, 14, 15, 16, 17, 18, 19, 20, 21, 22, 23, 24, 25, 26, 27, 28, 29, 30, 31, 32, 33, 34] (by decide +kernel) (by decide +kernel)
set_option maxRecDepth 20000 in
theorem gX5_sign_X5_isSign : GoodIn wsX5_sign (wsV RX5 145 RX5 yX5_isSign wsX5_isSign) := goodIn_app (goodIn_of _ (by decide +kernel)) ggX5_sign_X5_isSign
theorem dX5_sign_0 : decode cX5_sign 0 = .ok (.aload_n 0, 1) := by decide +kernel
theorem dX5_sign_1 : decode cX5_sign 1 = .ok (.iload_n 1, 1) := by decide +kernel
theorem dX5_sign_2 : decode cX5_sign 2 = .ok (.iload_n 2, 1) := by decide +kernel
theorem dX5_sign_3 : decode cX5_sign 3 = .ok (.invokevirtual 145, 3) := by decide +kernel
theorem dX5_sign_6 : decode cX5_sign 6 = .ok (.ifCond .eq 18, 3) := by decide +kernel
theorem dX5_sign_24 : decode cX5_sign 24 = .ok (.iconst (-1), 1) := by decide +kernel
theorem dX5_sign_25 : decode cX5_sign 25 = .ok (.ireturn, 1) := by decide +kernel
set_option maxRecDepth 20000 in
theorem ggX5_placed_X5_isSign : GoodIn wsX5_placed wsX5_isSign := goodIn_r _ [8, 9, 10, 11, 12, 7, 13, 14, 15, 16, 17, 18, 19, 20, 21, 22, 23, 24, 25, 26, 27, 28, 29, 30, 31, 32, 33, 34, 35, 36] (by decide +kernel) (by decide +kernel)
set_option maxRecDepth 20000 in
theorem gX5_placed_X5_isSign : GoodIn wsX5_placed (wsV RX5 145 RX5 yX5_isSign wsX5_isSign) := goodIn_app (goodIn_of _ (by decide +kernel)) ggX5_placed_X5_isSign
theorem dX5_placed_0 : decode cX5_placed 0 = .ok (.aload_n 0, 1) := by decide +kernel
theorem dX5_placed_1 : decode cX5_placed 1 = .ok (.iload_n 1, 1) := by decide +kernel
theorem dX5_placed_2 : decode cX5_placed 2 = .ok (.iload_n 2, 1) := by decide +kernel
theorem dX5_placed_3 : decode cX5_placed 3 = .ok (.invokevirtual 145, 3) := by decide +kernel
theorem dX5_placed_6 : decode cX5_placed 6 = .ok (.ifCond .eq 12, 3) := by decide +kernel
theorem dX5_placed_18 : decode cX5_placed 18 = .ok (.iconst (-1), 1) := by decide +kernel
theorem dX5_placed_19 : decode cX5_placed 19 = .ok (.ireturn, 1) := by decide +kernel
set_option maxRecDepth 20000 in
theorem ggX5_at_X5_isStream : GoodIn wsX5_at wsX5_isStream := goodIn_r _ [8] (by decide +kernel) (by decide +kernel)
set_option maxRecDepth 20000 in
theorem gX5_at_X5_isStream : GoodIn wsX5_at (va_wsS RX5 134 yX5_isStream wsX5_isStream) := goodIn_app (goodIn_of _ (by decide +kernel)) ggX5_at_X5_isStream
theorem dX5_at_0 : decode cX5_at 0 = .ok (.iload_n 1, 1) := by decide +kernel
theorem dX5_at_1 : decode cX5_at 1 = .ok (.invokestatic 134, 3) := by decide +kernel
theorem dX5_at_4 : decode cX5_at 4 = .ok (.ifCond .eq 12, 3) := by decide +kernel
theorem dX5_at_7 : decode cX5_at 7 = .ok (.aload_n 0, 1) := by decide +kernel
theorem dX5_at_8 : decode cX5_at 8 = .ok (.getfield 7, 3) := by decide +kernel
theorem dX5_at_11 : decode cX5_at 11 = .ok (.iload_n 1, 1) := by decide +kernel
theorem dX5_at_12 : decode cX5_at 12 = .ok (.baload, 1) := by decide +kernel
theorem dX5_at_13 : decode cX5_at 13 = .ok (.ifCond .ne 5, 3) := by decide +kernel
theorem dX5_at_16 : decode cX5_at 16 = .ok (.iconst (-1), 1) := by decide +kernel
theorem dX5_at_17 : decode cX5_at 17 = .ok (.ireturn, 1) := by decide +kernel
set_option maxRecDepth 20000 in
theorem ggX5_write_X5_isStream : GoodIn wsX5_write wsX5_isStream := goodIn_r _ [12] (by decide +kernel) (by decide +kernel)
set_option maxRecDepth 20000 in
theorem gX5_write_X5_isStream : GoodIn wsX5_write (va_wsS RX5 134 yX5_isStream wsX5_isStream) := goodIn_app (goodIn_of _ (by decide +kernel)) ggX5_write_X5_isStream
set_option maxRecDepth 20000 in
theorem ggX5_write_X5_isForm : GoodIn wsX5_write wsX5_isForm := goodIn_r _ [15] (by decide +kernel) (by decide +kernel)
set_option maxRecDepth 20000 in
theorem gX5_write_X5_isForm : GoodIn wsX5_write (va_wsS RX5 162 yX5_isForm wsX5_isForm) := goodIn_app (goodIn_of _ (by decide +kernel)) ggX5_write_X5_isForm
theorem dX5_write_0 : decode cX5_write 0 = .ok (.iload_n 1, 1) := by decide +kernel
theorem dX5_write_1 : decode cX5_write 1 = .ok (.invokestatic 134, 3) := by decide +kernel
theorem dX5_write_4 : decode cX5_write 4 = .ok (.ifCond .eq 10, 3) := by decide +kernel
theorem dX5_write_7 : decode cX5_write 7 = .ok (.iload_n 2, 1) := by decide +kernel
theorem dX5_write_8 : decode cX5_write 8 = .ok (.invokestatic 162, 3) := by decide +kernel
theorem dX5_write_11 : decode cX5_write 11 = .ok (.ifCond .ne 5, 3) := by decide +kernel
theorem dX5_write_14 : decode cX5_write 14 = .ok (.iconst (-1), 1) := by decide +kernel
theorem dX5_write_15 : decode cX5_write 15 = .ok (.ireturn, 1) := by decide +kernel
theorem dX5_write_16 : decode cX5_write 16 = .ok (.aload_n 0, 1) := by decide +kernel
theorem dX5_write_17 : decode cX5_write 17 = .ok (.getfield 7, 3) := by decide +kernel
theorem dX5_write_20 : decode cX5_write 20 = .ok (.iload_n 1, 1) := by decide +kernel
theorem dX5_write_21 : decode cX5_write 21 = .ok (.baload, 1) := by decide +kernel
theorem dX5_write_22 : decode cX5_write 22 = .ok (.ifCond .ne 6, 3) := by decide +kernel
theorem dX5_write_25 : decode cX5_write 25 = .ok (.bipush (-2), 2) := by decide +kernel
theorem dX5_write_27 : decode cX5_write 27 = .ok (.ireturn, 1) := by decide +kernel
set_option maxRecDepth 20000 in
theorem ggX5_size_X5_isStream : GoodIn wsX5_size wsX5_isStream := goodIn_r _ [7] (by decide +kernel) (by decide +kernel)
set_option maxRecDepth 20000 in
theorem gX5_size_X5_isStream : GoodIn wsX5_size (va_wsS RX5 134 yX5_isStream wsX5_isStream) := goodIn_app (goodIn_of _ (by decide +kernel)) ggX5_size_X5_isStream
set_option maxRecDepth 20000 in
theorem ggX5_size_X5_isForm : GoodIn wsX5_size wsX5_isForm := goodIn_r _ [10] (by decide +kernel) (by decide +kernel)
set_option maxRecDepth 20000 in
theorem gX5_size_X5_isForm : GoodIn wsX5_size (va_wsS RX5 162 yX5_isForm wsX5_isForm) := goodIn_app (goodIn_of _ (by decide +kernel)) ggX5_size_X5_isForm
theorem dX5_size_0 : decode cX5_size 0 = .ok (.iload_n 1, 1) := by decide +kernel
theorem dX5_size_1 : decode cX5_size 1 = .ok (.invokestatic 134, 3) := by decide +kernel
theorem dX5_size_4 : decode cX5_size 4 = .ok (.ifCond .eq 10, 3) := by decide +kernel
theorem dX5_size_7 : decode cX5_size 7 = .ok (.iload_n 2, 1) := by decide +kernel
theorem dX5_size_8 : decode cX5_size 8 = .ok (.invokestatic 162, 3) := by decide +kernel
theorem dX5_size_11 : decode cX5_size 11 = .ok (.ifCond .ne 5, 3) := by decide +kernel
theorem dX5_size_14 : decode cX5_size 14 = .ok (.iconst (-1), 1) := by decide +kernel
theorem dX5_size_15 : decode cX5_size 15 = .ok (.ireturn, 1) := by decide +kernel
theorem dX5_size_16 : decode cX5_size 16 = .ok (.aload_n 0, 1) := by decide +kernel
theorem dX5_size_17 : decode cX5_size 17 = .ok (.getfield 7, 3) := by decide +kernel
theorem dX5_size_20 : decode cX5_size 20 = .ok (.iload_n 1, 1) := by decide +kernel
theorem dX5_size_21 : decode cX5_size 21 = .ok (.baload, 1) := by decide +kernel
theorem dX5_size_22 : decode cX5_size 22 = .ok (.ifCond .ne 6, 3) := by decide +kernel
theorem dX5_size_25 : decode cX5_size 25 = .ok (.bipush (-2), 2) := by decide +kernel
theorem dX5_size_27 : decode cX5_size 27 = .ok (.ireturn, 1) := by decide +kernel
theorem dX5_out_0 : decode cX5_out 0 = .ok (.iload_n 1, 1) := by decide +kernel
theorem dX5_out_1 : decode cX5_out 1 = .ok (.ifCond .lt 11, 3) := by decide +kernel
theorem dX5_out_4 : decode cX5_out 4 = .ok (.iload_n 1, 1) := by decide +kernel
theorem dX5_out_5 : decode cX5_out 5 = .ok (.aload_n 0, 1) := by decide +kernel
theorem dX5_out_6 : decode cX5_out 6 = .ok (.getfield 68, 3) := by decide +kernel
theorem dX5_out_9 : decode cX5_out 9 = .ok (.if_icmp .lt 7, 3) := by decide +kernel
theorem dX5_out_12 : decode cX5_out 12 = .ok (.iconst (-1), 1) := by decide +kernel
theorem dX5_out_13 : decode cX5_out 13 = .ok (.goto 9, 3) := by decide +kernel
theorem dX5_out_22 : decode cX5_out 22 = .ok (.ireturn, 1) := by decide +kernel
set_option maxRecDepth 20000 in
theorem ggX5_check_X5_isForm : GoodIn wsX5_check wsX5_isForm := goodIn_r _ [8] (by decide +kernel) (by decide +kernel)
set_option maxRecDepth 20000 in
theorem gX5_check_X5_isForm : GoodIn wsX5_check (va_wsS RX5 162 yX5_isForm wsX5_isForm) := goodIn_app (goodIn_of _ (by decide +kernel)) ggX5_check_X5_isForm
theorem dX5_check_0 : decode cX5_check 0 = .ok (.iload_n 1, 1) := by decide +kernel
theorem dX5_check_1 : decode cX5_check 1 = .ok (.invokestatic 162, 3) := by decide +kernel
theorem dX5_check_4 : decode cX5_check 4 = .ok (.ifCond .ne 5, 3) := by decide +kernel
theorem dX5_check_7 : decode cX5_check 7 = .ok (.iconst (-1), 1) := by decide +kernel
theorem dX5_check_8 : decode cX5_check 8 = .ok (.ireturn, 1) := by decide +kernel
theorem dX5_check_9 : decode cX5_check 9 = .ok (.iconst 0, 1) := by decide +kernel
theorem dX5_check_10 : decode cX5_check 10 = .ok (.istore_n 2, 1) := by decide +kernel
theorem dX5_check_11 : decode cX5_check 11 = .ok (.iload_n 2, 1) := by decide +kernel
theorem dX5_check_12 : decode cX5_check 12 = .ok (.aload_n 0, 1) := by decide +kernel
theorem dX5_check_13 : decode cX5_check 13 = .ok (.getfield 68, 3) := by decide +kernel
theorem dX5_check_16 : decode cX5_check 16 = .ok (.if_icmp .ge 21, 3) := by decide +kernel
theorem dX5_check_37 : decode cX5_check 37 = .ok (.iconst 0, 1) := by decide +kernel
theorem dX5_check_38 : decode cX5_check 38 = .ok (.istore_n 2, 1) := by decide +kernel
theorem dX5_check_39 : decode cX5_check 39 = .ok (.iload_n 2, 1) := by decide +kernel
theorem dX5_check_40 : decode cX5_check 40 = .ok (.aload_n 0, 1) := by decide +kernel
theorem dX5_check_41 : decode cX5_check 41 = .ok (.getfield 68, 3) := by decide +kernel
theorem dX5_check_44 : decode cX5_check 44 = .ok (.if_icmp .ge 30, 3) := by decide +kernel
theorem dX5_check_74 : decode cX5_check 74 = .ok (.bipush (-2), 2) := by decide +kernel
theorem dX5_check_76 : decode cX5_check 76 = .ok (.ireturn, 1) := by decide +kernel
set_option maxRecDepth 20000 in
theorem ggX5_order_X5_isStream : GoodIn wsX5_order wsX5_isStream := goodIn_r _ [7] (by decide +kernel) (by decide +kernel)
set_option maxRecDepth 20000 in
theorem gX5_order_X5_isStream : GoodIn wsX5_order (va_wsS RX5 134 yX5_isStream wsX5_isStream) := goodIn_app (goodIn_of _ (by decide +kernel)) ggX5_order_X5_isStream
theorem dX5_order_0 : decode cX5_order 0 = .ok (.iload_n 1, 1) := by decide +kernel
theorem dX5_order_1 : decode cX5_order 1 = .ok (.invokestatic 134, 3) := by decide +kernel
theorem dX5_order_4 : decode cX5_order 4 = .ok (.ifCond .eq 19, 3) := by decide +kernel
theorem dX5_order_7 : decode cX5_order 7 = .ok (.iload_n 2, 1) := by decide +kernel
theorem dX5_order_8 : decode cX5_order 8 = .ok (.invokestatic 134, 3) := by decide +kernel
theorem dX5_order_11 : decode cX5_order 11 = .ok (.ifCond .eq 12, 3) := by decide +kernel
theorem dX5_order_14 : decode cX5_order 14 = .ok (.iload_n 3, 1) := by decide +kernel
theorem dX5_order_15 : decode cX5_order 15 = .ok (.ifCond .lt 8, 3) := by decide +kernel
theorem dX5_order_18 : decode cX5_order 18 = .ok (.iload_n 3, 1) := by decide +kernel
theorem dX5_order_19 : decode cX5_order 19 = .ok (.iconst 2, 1) := by decide +kernel
theorem dX5_order_20 : decode cX5_order 20 = .ok (.if_icmp .le 5, 3) := by decide +kernel
theorem dX5_order_23 : decode cX5_order 23 = .ok (.iconst (-1), 1) := by decide +kernel
theorem dX5_order_24 : decode cX5_order 24 = .ok (.ireturn, 1) := by decide +kernel
theorem dX5_order_25 : decode cX5_order 25 = .ok (.aload_n 0, 1) := by decide +kernel
theorem dX5_order_26 : decode cX5_order 26 = .ok (.getfield 7, 3) := by decide +kernel
theorem dX5_order_29 : decode cX5_order 29 = .ok (.iload_n 1, 1) := by decide +kernel
theorem dX5_order_30 : decode cX5_order 30 = .ok (.baload, 1) := by decide +kernel
theorem dX5_order_31 : decode cX5_order 31 = .ok (.ifCond .eq 12, 3) := by decide +kernel
theorem dX5_order_43 : decode cX5_order 43 = .ok (.bipush (-2), 2) := by decide +kernel
theorem dX5_order_45 : decode cX5_order 45 = .ok (.ireturn, 1) := by decide +kernel
set_option maxRecDepth 20000 in
theorem ggX5_among_X5_isStream : GoodIn wsX5_among wsX5_isStream := goodIn_r _ [7] (by decide +kernel) (by decide +kernel)
set_option maxRecDepth 20000 in
theorem gX5_among_X5_isStream : GoodIn wsX5_among (va_wsS RX5 134 yX5_isStream wsX5_isStream) := goodIn_app (goodIn_of _ (by decide +kernel)) ggX5_among_X5_isStream
theorem dX5_among_0 : decode cX5_among 0 = .ok (.iload_n 1, 1) := by decide +kernel
theorem dX5_among_1 : decode cX5_among 1 = .ok (.invokestatic 134, 3) := by decide +kernel
theorem dX5_among_4 : decode cX5_among 4 = .ok (.ifCond .ne 5, 3) := by decide +kernel
theorem dX5_among_7 : decode cX5_among 7 = .ok (.iconst (-1), 1) := by decide +kernel
theorem dX5_among_8 : decode cX5_among 8 = .ok (.ireturn, 1) := by decide +kernel
theorem dX5_among_9 : decode cX5_among 9 = .ok (.aload_n 0, 1) := by decide +kernel
theorem dX5_among_10 : decode cX5_among 10 = .ok (.getfield 7, 3) := by decide +kernel
theorem dX5_among_13 : decode cX5_among 13 = .ok (.iload_n 1, 1) := by decide +kernel
theorem dX5_among_14 : decode cX5_among 14 = .ok (.baload, 1) := by decide +kernel
theorem dX5_among_15 : decode cX5_among 15 = .ok (.ifCond .ne 6, 3) := by decide +kernel
theorem dX5_among_18 : decode cX5_among 18 = .ok (.bipush (-2), 2) := by decide +kernel
theorem dX5_among_20 : decode cX5_among 20 = .ok (.ireturn, 1) := by decide +kernel
end
section
/-- a compare of two ints, said of their numbers -/
theorem zz_lt {x y : Int32} {a b : Int} (hx : x.toInt = a) (hy : y.toInt = b) (h : x < y) : a < b := by rw [← hx, ← hy]; exact Int32.lt_iff_toInt_lt.mp h
theorem zz_le {x y : Int32} {a b : Int} (hx : x.toInt = a) (hy : y.toInt = b) (h : x ≤ y) : a ≤ b := by rw [← hx, ← hy]; exact Int32.le_iff_toInt_le.mp h
theorem zz_nlt {x y : Int32} {a b : Int} (hx : x.toInt = a) (hy : y.toInt = b) (h : ¬ x < y) : a ≥ b := by
  have h2 : ¬ x.toInt < y.toInt := fun q => h (Int32.lt_iff_toInt_lt.mpr q)
  omega
theorem zz_nle {x y : Int32} {a b : Int} (hx : x.toInt = a) (hy : y.toInt = b) (h : ¬ x ≤ y) : a > b := by
  have h2 : ¬ x.toInt ≤ y.toInt := fun q => h (Int32.le_iff_toInt_le.mpr q)
  omega
theorem zz_eq {x y : Int32} {a b : Int} (hx : x.toInt = a) (hy : y.toInt = b) (h : x = y) : a = b := by rw [← hx, ← hy, h]
theorem zz_neq {x y : Int32} {a b : Int} (hx : x.toInt = a) (hy : y.toInt = b) (h : ¬ x = y) : a ≠ b := by
  intro q
  exact h (Int32.toInt_inj.mp (by rw [hx, hy, q]))

def an_put (s n : Int32) : Int32 := if 0 ≤ s.toInt ∧ s.toInt < 4 ∧ 1 ≤ n.toInt ∧ n.toInt ≤ 8 then -2 else -1
def an_pour (s i n : Int32) : Int32 := if 0 ≤ s.toInt ∧ s.toInt < 4 ∧ 0 ≤ i.toInt ∧ i.toInt ≤ 0 ∧ 0 ≤ n.toInt then -2 else -1
def an_end (s : Int32) : Int32 := if 0 ≤ s.toInt ∧ s.toInt < 4 then -2 else -1
def an_about (s w : Int32) : Int32 := if 0 ≤ s.toInt ∧ s.toInt < 4 ∧ 0 ≤ w.toInt ∧ w.toInt ≤ 8 then -2 else -1
def an_write (s f : Int32) : Int32 := if 0 ≤ s.toInt ∧ s.toInt < 4 ∧ 0 ≤ f.toInt ∧ f.toInt ≤ 5 then -2 else -1
def an_check (f : Int32) : Int32 := if 0 ≤ f.toInt ∧ f.toInt ≤ 5 then -2 else -1
def an_order (s z w : Int32) : Int32 := if 0 ≤ s.toInt ∧ s.toInt < 4 ∧ 0 ≤ z.toInt ∧ z.toInt < 4 ∧ 0 ≤ w.toInt ∧ w.toInt ≤ 2 then -2 else -1
def an_open (s f p : Int32) : Prop := 0 ≤ s.toInt ∧ s.toInt < 4 ∧ 0 ≤ f.toInt ∧ f.toInt ≤ 6 ∧ 0 ≤ p.toInt ∧ p.toInt ≤ 2
end
section
set_option maxHeartbeats 4000000 in
set_option maxRecDepth 100000 in
/-- isStream: 0 .. 3 -/
theorem kX4_isStream (l : Launch) (dC : Nat → ClassId) (dI : Nat → Nat → Nat) (h0 h1 h2 h4 : Nat) (kS : ClassId) (p0 : Int32) : Met l yX4_isStream wsX4_isStream ({ frames := 0, cells := 0, slots := 0, locals := 0 } : Room) (va_Pc [.ref h0, .int p0] (fun U => va_P (dC, dI) vwCl [(h0, .inr (3, [.ref h1, .ref h2, .ref h4])), (h1, .inl (kS, 4, .inr (.inr (.inr (.inr (fun _ => none))))))] U.heap ∧ va_K (dC, dI) vwCl [(kS, .object "SignForms$Stream")] U)) (vp_Si (fun r => (r = 1 ∧ (0 ≤ p0.toInt ∧ p0.toInt < 4)) ∨ (r = 0 ∧ ¬ (0 ≤ p0.toInt ∧ p0.toInt < 4)))) 0 0 (fun _ => False) := by
  refine Met.ofW (cc := cX4_isStream) (maxL := 2) (ret := (some .boolean)) (by decide) rfl ?_
  intro p e s m args below meth c s₁ B hml hv
  obtain ⟨rfl, hP, hK⟩ := hv
  have hx := B.exec
  have hb := B.bytes
  have hr := B.returns
  have hts := atoms_spec (ws := wsX4_isStream) B.pre
  have hown : s.vm.findClass RX4 = some m.cls := findClass_of_methodNamed B.named
  have hlocks := B.notSynchronized
  have hl := lv_entry ([.ref h0, .int p0]) (n := 2) (Nat.le_of_ble_eq_true rfl)
  rw [lg_entry_eq]
  generalize (lg_sl ([.ref h0, .int p0]) ++ List.replicate (2 - (lg_sl ([.ref h0, .int p0])).length) Slot.unset).toArray = ls at hl ⊢
  have hl : lv_has ls 2 [(0, .ref h0), (1, .int p0)] := hl
  refine lv_iload_n hx hb dX4_isStream_0 rfl (lv_at hl 1 rfl) ?_
  refine lv_if_lt (tgt := 17) hx hb dX4_isStream_1 (by decide) (fun c_1 => ?_) (fun c_1 => ?_)
  · have zc_1 : p0.toInt < (0 : Int) := zz_lt rfl (by decide) c_1
    refine lv_iconst (v := 0) hx hb dX4_isStream_17 (by decide) ?_
    exact W.zret (v := 0) hx hb hr rfl (fun t ht hW => ⟨0, rfl, Or.inr ⟨rfl, by omega⟩, ht⟩) (fun q h => by cases h) dX4_isStream_18
  · have zc_1 : p0.toInt ≥ (0 : Int) := zz_nlt rfl (by decide) c_1
    refine lv_iload_n hx hb dX4_isStream_4 rfl (lv_at hl 1 rfl) ?_
    refine lv_aload_n hx hb dX4_isStream_5 rfl (lv_at hl 0 rfl) ?_
    refine va_get (D := (dC, dI)) (ci := 3) (v := .ref h1) (C := RX4) (T := TX4) (N := 3) hx hb hts (by decide +kernel) hown hK hP 0 rfl rfl 0 (by decide) (hts (.fieldLink RX4 11 "SignForms" "streams" "[LSignForms$Stream;") (by decide +kernel)) (fun _ h9 => h9) rfl dX4_isStream_6 ?_
    refine va_alen (v := 4) hx hb hK hP 1 0 rfl rfl (by decide) dX4_isStream_9 ?_
    refine lv_icmp_ge (tgt := 17) hx hb dX4_isStream_10 (by decide) (fun c_2 => ?_) (fun c_2 => ?_)
    · have zc_2 : (4 : Int) ≤ p0.toInt := zz_le (by decide) rfl c_2
      refine lv_iconst (v := 0) hx hb dX4_isStream_17 (by decide) ?_
      exact W.zret (v := 0) hx hb hr rfl (fun t ht hW => ⟨0, rfl, Or.inr ⟨rfl, by omega⟩, ht⟩) (fun q h => by cases h) dX4_isStream_18
    · have zc_2 : (4 : Int) > p0.toInt := zz_nle (by decide) rfl c_2
      refine lv_iconst (v := 1) hx hb dX4_isStream_13 (by decide) ?_
      refine lv_goto (tgt := 18) hx hb dX4_isStream_14 (by decide) ?_
      exact W.zret (v := 1) hx hb hr rfl (fun t ht hW => ⟨1, rfl, Or.inl ⟨rfl, by omega⟩, ht⟩) (fun q h => by cases h) dX4_isStream_18
set_option maxHeartbeats 4000000 in
set_option maxRecDepth 100000 in
theorem kX4_isWritable (l : Launch) (p0 : Int32) : Met l yX4_isWritable wsX4_isWritable ({ frames := 0, cells := 0, slots := 0, locals := 0 } : Room) (va_Pc [.int p0] (fun _ => True)) (vp_Si (fun r => (r = 1 ∧ (0 ≤ p0.toInt ∧ p0.toInt ≤ 5)) ∨ (r = 0 ∧ ¬ (0 ≤ p0.toInt ∧ p0.toInt ≤ 5)))) 0 0 (fun _ => False) := by
  refine Met.ofW (cc := cX4_isWritable) (maxL := 1) (ret := (some .boolean)) (by decide) rfl ?_
  intro p e s m args below meth c s₁ B hml hv
  obtain ⟨rfl, -⟩ := hv
  have hx := B.exec
  have hb := B.bytes
  have hr := B.returns
  have hts := atoms_spec (ws := wsX4_isWritable) B.pre
  have hown : s.vm.findClass RX4 = some m.cls := findClass_of_methodNamed B.named
  have hlocks := B.notSynchronized
  have hl := lv_entry ([.int p0]) (n := 1) (Nat.le_of_ble_eq_true rfl)
  rw [lg_entry_eq]
  generalize (lg_sl ([.int p0]) ++ List.replicate (1 - (lg_sl ([.int p0])).length) Slot.unset).toArray = ls at hl ⊢
  have hl : lv_has ls 1 [(0, .int p0)] := hl
  refine lv_iload_n hx hb dX4_isWritable_0 rfl (lv_at hl 0 rfl) ?_
  refine lv_if_lt (tgt := 13) hx hb dX4_isWritable_1 (by decide) (fun c_1 => ?_) (fun c_1 => ?_)
  · have zc_1 : p0.toInt < (0 : Int) := zz_lt rfl (by decide) c_1
    refine lv_iconst (v := 0) hx hb dX4_isWritable_13 (by decide) ?_
    exact W.zret (v := 0) hx hb hr rfl (fun t ht hW => ⟨0, rfl, Or.inr ⟨rfl, by omega⟩, ht⟩) (fun q h => by cases h) dX4_isWritable_14
  · have zc_1 : p0.toInt ≥ (0 : Int) := zz_nlt rfl (by decide) c_1
    refine lv_iload_n hx hb dX4_isWritable_4 rfl (lv_at hl 0 rfl) ?_
    refine lv_iconst (v := 5) hx hb dX4_isWritable_5 (by decide) ?_
    refine lv_icmp_gt (tgt := 13) hx hb dX4_isWritable_6 (by decide) (fun c_2 => ?_) (fun c_2 => ?_)
    · have zc_2 : (5 : Int) < p0.toInt := zz_lt (by decide) rfl c_2
      refine lv_iconst (v := 0) hx hb dX4_isWritable_13 (by decide) ?_
      exact W.zret (v := 0) hx hb hr rfl (fun t ht hW => ⟨0, rfl, Or.inr ⟨rfl, by omega⟩, ht⟩) (fun q h => by cases h) dX4_isWritable_14
    · have zc_2 : (5 : Int) ≥ p0.toInt := zz_nlt (by decide) rfl c_2
      refine lv_iconst (v := 1) hx hb dX4_isWritable_9 (by decide) ?_
      refine lv_goto (tgt := 14) hx hb dX4_isWritable_10 (by decide) ?_
      exact W.zret (v := 1) hx hb hr rfl (fun t ht hW => ⟨1, rfl, Or.inl ⟨rfl, by omega⟩, ht⟩) (fun q h => by cases h) dX4_isWritable_14
set_option maxHeartbeats 4000000 in
set_option maxRecDepth 100000 in
theorem kX4_openStream (l : Launch) (dC : Nat → ClassId) (dI : Nat → Nat → Nat) (h0 h1 h2 h4 : Nat) (kS : ClassId) (p0 : Int32) : Met l yX4_openStream wsX4_openStream ({ frames := 1, cells := 0, slots := 0, locals := 21 } : Room) (va_Pc [.ref h0, .int p0] (fun U => va_P (dC, dI) vwCl [(h0, .inr (3, [.ref h1, .ref h2, .ref h4])), (h1, .inl (kS, 4, .inr (.inr (.inr (.inr (fun _ => none))))))] U.heap ∧ va_K (dC, dI) vwCl [(kS, .object "SignForms$Stream")] U)) (va_Sq (fun r => r = none)) 0 0 (fun _ => False) := by
  refine Met.ofW (cc := cX4_openStream) (maxL := 2) (ret := (some (.object "SignForms$Stream"))) (by decide) rfl ?_
  intro p e s m args below meth c s₁ B hml hv
  obtain ⟨rfl, hP, hK⟩ := hv
  have hx := B.exec
  have hb := B.bytes
  have hr := B.returns
  have hts := atoms_spec (ws := wsX4_openStream) B.pre
  have hown : s.vm.findClass RX4 = some m.cls := findClass_of_methodNamed B.named
  have hlocks := B.notSynchronized
  have hl := lv_entry ([.ref h0, .int p0]) (n := 2) (Nat.le_of_ble_eq_true rfl)
  rw [lg_entry_eq]
  generalize (lg_sl ([.ref h0, .int p0]) ++ List.replicate (2 - (lg_sl ([.ref h0, .int p0])).length) Slot.unset).toArray = ls at hl ⊢
  have hl : lv_has ls 2 [(0, .ref h0), (1, .int p0)] := hl
  refine lv_aload_n hx hb dX4_openStream_0 rfl (lv_at hl 0 rfl) ?_
  refine lv_iload_n hx hb dX4_openStream_1 rfl (lv_at hl 1 rfl) ?_
  have hPc := hP.sub (ws' := [(h0, .inr (3, [.ref h1, .ref h2, .ref h4])), (h1, .inl (kS, 4, .inr (.inr (.inr (.inr (fun _ => none))))))]) [0, 1] rfl
  have hKc := hK.sub (tys' := [(kS, .object "SignForms$Stream")]) [0] rfl
  refine vp_callSi (W.runV (As := [.int p0]) (rest := []) ⟨hx, hb, hml, hown, hts⟩ (kX4_isStream l dC dI h0 h1 h2 h4 kS p0) (cwV 1 hts gX4_openStream_X4_isStream rfl rfl rfl (by decide +kernel) ⟨Nat.le_of_ble_eq_true rfl, Nat.le_of_ble_eq_true rfl⟩) ⟨fun a U g mk q => by obtain ⟨q0, qP, qK⟩ := q; exact ⟨q0, qP, va_K.moved (u := U) (U := U.calling g mk a) (Vm.Alike.refl U.vm) qK⟩, va_recv hKc hPc (ci := 3) (q0 := 0) rfl rfl, fun U hU hW => ⟨rfl, by rw [hU]; exact hPc, va_K.moved hW.alike hKc⟩⟩ rfl rfl hl.1 rfl (lv_room (Nat.le_of_ble_eq_true rfl)) dX4_openStream_2 ⟨Nat.le_of_ble_eq_true rfl, Nat.le_of_ble_eq_true rfl⟩) (fun r_1 hwr_1 => ?_)
  rcases hwr_1 with ⟨rfl, hwr_1⟩ | ⟨rfl, hwr_1⟩
  · refine lv_if_eq (tgt := 17) hx hb dX4_openStream_5 (by decide) (fun c_2 => False.elim (by revert c_2; decide)) (fun _ => ?_)
    refine lv_aload_n hx hb dX4_openStream_8 rfl (lv_at hl 0 rfl) ?_
    refine va_get (D := (dC, dI)) (ci := 3) (v := .ref h1) (C := RX4) (T := TX4) (N := 3) hx hb hts (by decide +kernel) hown hK hP 0 rfl rfl 0 (by decide) (hts (.fieldLink RX4 11 "SignForms" "streams" "[LSignForms$Stream;") (by decide +kernel)) (fun _ h9 => h9) rfl dX4_openStream_9 ?_
    refine lv_iload_n hx hb dX4_openStream_12 rfl (lv_at hl 1 rfl) ?_
    refine va_aldq hx hb hK hP 1 0 rfl rfl (vp_in_iff.mpr (by omega)) dX4_openStream_13 ?_
    refine W.eq (g2 := F0 m 14 ls [.null]) rfl ?_
    refine lv_goto (tgt := 18) hx hb dX4_openStream_14 (by decide) ?_
    exact W.aret (v := .null) hx hb hr (Or.inl ⟨_, rfl⟩) (Or.inl rfl) (fun t ht hW => ⟨none, rfl, rfl, ht⟩) (fun q h => by cases h) dX4_openStream_18
  · refine lv_if_eq (tgt := 17) hx hb dX4_openStream_5 (by decide) (fun _ => ?_) (fun c_3 => False.elim (by revert c_3; decide))
    refine lv_null hx hb dX4_openStream_17 ?_
    exact W.aret (v := .null) hx hb hr (Or.inl ⟨_, rfl⟩) (Or.inl rfl) (fun t ht hW => ⟨none, rfl, rfl, ht⟩) (fun q h => by cases h) dX4_openStream_18
set_option maxHeartbeats 4000000 in
set_option maxRecDepth 100000 in
theorem kX1_byteAt (l : Launch) (dC : Nat → ClassId) (dI : Nat → Nat → Nat) (h2 h3 : Nat) (p0 : Int32) : Met l yX1_byteAt wsX1_byteAt ({ frames := 0, cells := 0, slots := 0, locals := 0 } : Room) (va_Pc [.ref h2, .int p0] (fun U => va_P (dC, dI) vwCl [(h2, .inr (0, [.ref h3, .int 0]))] U.heap ∧ va_K (dC, dI) vwCl [] U)) (vp_Si (fun r => r = -1)) 0 0 (fun _ => False) := by
  refine Met.ofW (cc := cX1_byteAt) (maxL := 2) (ret := (some .int)) (by decide) rfl ?_
  intro p e s m args below meth c s₁ B hml hv
  obtain ⟨rfl, hP, hK⟩ := hv
  have hx := B.exec
  have hb := B.bytes
  have hr := B.returns
  have hts := atoms_spec (ws := wsX1_byteAt) B.pre
  have hown : s.vm.findClass RX1 = some m.cls := findClass_of_methodNamed B.named
  have hlocks := B.notSynchronized
  have hl := lv_entry ([.ref h2, .int p0]) (n := 2) (Nat.le_of_ble_eq_true rfl)
  rw [lg_entry_eq]
  generalize (lg_sl ([.ref h2, .int p0]) ++ List.replicate (2 - (lg_sl ([.ref h2, .int p0])).length) Slot.unset).toArray = ls at hl ⊢
  have hl : lv_has ls 2 [(0, .ref h2), (1, .int p0)] := hl
  refine lv_iload_n hx hb dX1_byteAt_0 rfl (lv_at hl 1 rfl) ?_
  refine lv_if_lt (tgt := 21) hx hb dX1_byteAt_1 (by decide) (fun c_1 => ?_) (fun c_1 => ?_)
  · have zc_1 : p0.toInt < (0 : Int) := zz_lt rfl (by decide) c_1
    refine lv_iconst (v := (-1)) hx hb dX1_byteAt_21 (by decide) ?_
    exact W.iret (v := (-1)) hx hb hr (fun t ht hW => ⟨(-1), rfl, rfl, ht⟩) (fun q h => by cases h) dX1_byteAt_22
  · have zc_1 : p0.toInt ≥ (0 : Int) := zz_nlt rfl (by decide) c_1
    refine lv_iload_n hx hb dX1_byteAt_4 rfl (lv_at hl 1 rfl) ?_
    refine lv_aload_n hx hb dX1_byteAt_5 rfl (lv_at hl 0 rfl) ?_
    refine va_get (D := (dC, dI)) (ci := 0) (v := .int 0) (C := RX1) (T := TX1) (N := 2) hx hb hts (by decide +kernel) hown hK hP 0 rfl rfl 1 (by decide) (hts (.fieldLink RX1 15 "SignForms$OutRow" "count" "I") (by decide +kernel)) (fun _ h9 => h9) rfl dX1_byteAt_6 ?_
    refine lv_icmp_ge (tgt := 21) hx hb dX1_byteAt_9 (by decide) (fun c_2 => ?_) (fun c_2 => ?_)
    · have zc_2 : (0 : Int) ≤ p0.toInt := zz_le (by decide) rfl c_2
      refine lv_iconst (v := (-1)) hx hb dX1_byteAt_21 (by decide) ?_
      exact W.iret (v := (-1)) hx hb hr (fun t ht hW => ⟨(-1), rfl, rfl, ht⟩) (fun q h => by cases h) dX1_byteAt_22
    · have zc_2 : (0 : Int) > p0.toInt := zz_nle (by decide) rfl c_2
      exfalso
      omega
set_option maxHeartbeats 4000000 in
set_option maxRecDepth 100000 in
theorem kX4_put (l : Launch) (dC : Nat → ClassId) (dI : Nat → Nat → Nat) (h0 h1 h2 h4 : Nat) (kS : ClassId) (p0 : Int32) (w0 : Int64) (p1 : Int32) : Met l yX4_put wsX4_put ({ frames := 1, cells := 0, slots := 0, locals := 21 } : Room) (va_Pc [.ref h0, .int p0, .long w0, .int p1] (fun U => va_P (dC, dI) vwCl [(h0, .inr (3, [.ref h1, .ref h2, .ref h4])), (h1, .inl (kS, 4, .inr (.inr (.inr (.inr (fun _ => none))))))] U.heap ∧ va_K (dC, dI) vwCl [(kS, .object "SignForms$Stream")] U)) (vp_Si (fun r => r = an_put p0 p1)) 0 0 (fun _ => False) := by
  refine Met.ofW (cc := cX4_put) (maxL := 7) (ret := (some .int)) (by decide) rfl ?_
  intro p e s m args below meth c s₁ B hml hv
  obtain ⟨rfl, hP, hK⟩ := hv
  have hx := B.exec
  have hb := B.bytes
  have hr := B.returns
  have hts := atoms_spec (ws := wsX4_put) B.pre
  have hown : s.vm.findClass RX4 = some m.cls := findClass_of_methodNamed B.named
  have hlocks := B.notSynchronized
  have hl := lv_entry ([.ref h0, .int p0, .long w0, .int p1]) (n := 7) (Nat.le_of_ble_eq_true rfl)
  rw [lg_entry_eq]
  generalize (lg_sl ([.ref h0, .int p0, .long w0, .int p1]) ++ List.replicate (7 - (lg_sl ([.ref h0, .int p0, .long w0, .int p1])).length) Slot.unset).toArray = ls at hl ⊢
  have hl : lv_has ls 7 [(0, .ref h0), (1, .int p0), (2, .long w0), (4, .int p1)] := hl
  refine lv_aload_n hx hb dX4_put_0 rfl (lv_at hl 0 rfl) ?_
  refine lv_iload_n hx hb dX4_put_1 rfl (lv_at hl 1 rfl) ?_
  have hPc := hP.sub (ws' := [(h0, .inr (3, [.ref h1, .ref h2, .ref h4])), (h1, .inl (kS, 4, .inr (.inr (.inr (.inr (fun _ => none))))))]) [0, 1] rfl
  have hKc := hK.sub (tys' := [(kS, .object "SignForms$Stream")]) [0] rfl
  refine vp_callSi (W.runV (As := [.int p0]) (rest := []) ⟨hx, hb, hml, hown, hts⟩ (kX4_isStream l dC dI h0 h1 h2 h4 kS p0) (cwV 1 hts gX4_put_X4_isStream rfl rfl rfl (by decide +kernel) ⟨Nat.le_of_ble_eq_true rfl, Nat.le_of_ble_eq_true rfl⟩) ⟨fun a U g mk q => by obtain ⟨q0, qP, qK⟩ := q; exact ⟨q0, qP, va_K.moved (u := U) (U := U.calling g mk a) (Vm.Alike.refl U.vm) qK⟩, va_recv hKc hPc (ci := 3) (q0 := 0) rfl rfl, fun U hU hW => ⟨rfl, by rw [hU]; exact hPc, va_K.moved hW.alike hKc⟩⟩ rfl rfl hl.1 rfl (lv_room (Nat.le_of_ble_eq_true rfl)) dX4_put_2 ⟨Nat.le_of_ble_eq_true rfl, Nat.le_of_ble_eq_true rfl⟩) (fun r_1 hwr_1 => ?_)
  rcases hwr_1 with ⟨rfl, hwr_1⟩ | ⟨rfl, hwr_1⟩
  · refine lv_if_eq (tgt := 21) hx hb dX4_put_5 (by decide) (fun c_2 => False.elim (by revert c_2; decide)) (fun _ => ?_)
    refine lv_iload hx hb dX4_put_8 (lv_at hl 3 rfl) ?_
    refine lv_iconst (v := 1) hx hb dX4_put_10 (by decide) ?_
    refine lv_icmp_lt (tgt := 21) hx hb dX4_put_11 (by decide) (fun c_3 => ?_) (fun c_3 => ?_)
    · have zc_3 : p1.toInt < (1 : Int) := zz_lt rfl (by decide) c_3
      refine lv_iconst (v := (-1)) hx hb dX4_put_21 (by decide) ?_
      exact W.iret (v := (-1)) hx hb hr (fun t ht hW => ⟨(-1), rfl, by unfold an_put; first | rw [if_pos (by omega)] | rw [if_neg (by omega)], ht⟩) (fun q h => by cases h) dX4_put_22
    · have zc_3 : p1.toInt ≥ (1 : Int) := zz_nlt rfl (by decide) c_3
      refine lv_iload hx hb dX4_put_14 (lv_at hl 3 rfl) ?_
      refine lv_bipush (v := 8) hx hb dX4_put_16 (by decide) ?_
      refine lv_icmp_le (tgt := 23) hx hb dX4_put_18 (by decide) (fun c_4 => ?_) (fun c_4 => ?_)
      · have zc_4 : p1.toInt ≤ (8 : Int) := zz_le rfl (by decide) c_4
        refine lv_aload_n hx hb dX4_put_23 rfl (lv_at hl 0 rfl) ?_
        refine va_get (D := (dC, dI)) (ci := 3) (v := .ref h1) (C := RX4) (T := TX4) (N := 3) hx hb hts (by decide +kernel) hown hK hP 0 rfl rfl 0 (by decide) (hts (.fieldLink RX4 11 "SignForms" "streams" "[LSignForms$Stream;") (by decide +kernel)) (fun _ h9 => h9) rfl dX4_put_24 ?_
        refine lv_iload_n hx hb dX4_put_27 rfl (lv_at hl 1 rfl) ?_
        refine va_aldq hx hb hK hP 1 0 rfl rfl (vp_in_iff.mpr (by omega)) dX4_put_28 ?_
        refine W.eq (g2 := F0 m 29 ls [.null]) rfl ?_
        refine lv_astoreN (lv' := [(5, .null), (0, .ref h0), (1, .int p0), (2, .long w0), (4, .int p1)]) hx hb dX4_put_29 hl (by decide) rfl (fun ls hl => ?_)
        refine lv_aloadN hx hb dX4_put_31 (lv_at hl 0 rfl) ?_
        refine lv_ifnullN (tgt := 44) hx hb dX4_put_33 (by decide) ?_
        refine lv_bipush (v := (-2)) hx hb dX4_put_44 (by decide) ?_
        exact W.iret (v := (-2)) hx hb hr (fun t ht hW => ⟨(-2), rfl, by unfold an_put; first | rw [if_pos (by omega)] | rw [if_neg (by omega)], ht⟩) (fun q h => by cases h) dX4_put_46
      · have zc_4 : p1.toInt > (8 : Int) := zz_nle rfl (by decide) c_4
        refine lv_iconst (v := (-1)) hx hb dX4_put_21 (by decide) ?_
        exact W.iret (v := (-1)) hx hb hr (fun t ht hW => ⟨(-1), rfl, by unfold an_put; first | rw [if_pos (by omega)] | rw [if_neg (by omega)], ht⟩) (fun q h => by cases h) dX4_put_22
  · refine lv_if_eq (tgt := 21) hx hb dX4_put_5 (by decide) (fun _ => ?_) (fun c_5 => False.elim (by revert c_5; decide))
    refine lv_iconst (v := (-1)) hx hb dX4_put_21 (by decide) ?_
    exact W.iret (v := (-1)) hx hb hr (fun t ht hW => ⟨(-1), rfl, by unfold an_put; first | rw [if_pos (by omega)] | rw [if_neg (by omega)], ht⟩) (fun q h => by cases h) dX4_put_22
set_option maxHeartbeats 4000000 in
set_option maxRecDepth 100000 in
theorem kX4_pour (l : Launch) (dC : Nat → ClassId) (dI : Nat → Nat → Nat) (h0 h1 h2 h3 h4 : Nat) (kS : ClassId) (p0 : Int32) (p1 : Int32) (p2 : Int32) : Met l yX4_pour wsX4_pour ({ frames := 1, cells := 0, slots := 0, locals := 21 } : Room) (va_Pc [.ref h0, .int p0, .int p1, .int p2] (fun U => va_P (dC, dI) vwCl [(h0, .inr (3, [.ref h1, .ref h2, .ref h4])), (h1, .inl (kS, 4, .inr (.inr (.inr (.inr (fun _ => none)))))), (h2, .inr (0, [.ref h3, .int 0]))] U.heap ∧ va_K (dC, dI) vwCl [(kS, .object "SignForms$Stream")] U)) (vp_Si (fun r => r = an_pour p0 p1 p2)) 0 0 (fun _ => False) := by
  refine Met.ofW (cc := cX4_pour) (maxL := 7) (ret := (some .int)) (by decide) rfl ?_
  intro p e s m args below meth c s₁ B hml hv
  obtain ⟨rfl, hP, hK⟩ := hv
  have hx := B.exec
  have hb := B.bytes
  have hr := B.returns
  have hts := atoms_spec (ws := wsX4_pour) B.pre
  have hown : s.vm.findClass RX4 = some m.cls := findClass_of_methodNamed B.named
  have hlocks := B.notSynchronized
  have hl := lv_entry ([.ref h0, .int p0, .int p1, .int p2]) (n := 7) (Nat.le_of_ble_eq_true rfl)
  rw [lg_entry_eq]
  generalize (lg_sl ([.ref h0, .int p0, .int p1, .int p2]) ++ List.replicate (7 - (lg_sl ([.ref h0, .int p0, .int p1, .int p2])).length) Slot.unset).toArray = ls at hl ⊢
  have hl : lv_has ls 7 [(0, .ref h0), (1, .int p0), (2, .int p1), (3, .int p2)] := hl
  refine lv_aload_n hx hb dX4_pour_0 rfl (lv_at hl 0 rfl) ?_
  refine lv_iload_n hx hb dX4_pour_1 rfl (lv_at hl 1 rfl) ?_
  have hPc := hP.sub (ws' := [(h0, .inr (3, [.ref h1, .ref h2, .ref h4])), (h1, .inl (kS, 4, .inr (.inr (.inr (.inr (fun _ => none))))))]) [0, 1] rfl
  have hKc := hK.sub (tys' := [(kS, .object "SignForms$Stream")]) [0] rfl
  refine vp_callSi (W.runV (As := [.int p0]) (rest := []) ⟨hx, hb, hml, hown, hts⟩ (kX4_isStream l dC dI h0 h1 h2 h4 kS p0) (cwV 1 hts gX4_pour_X4_isStream rfl rfl rfl (by decide +kernel) ⟨Nat.le_of_ble_eq_true rfl, Nat.le_of_ble_eq_true rfl⟩) ⟨fun a U g mk q => by obtain ⟨q0, qP, qK⟩ := q; exact ⟨q0, qP, va_K.moved (u := U) (U := U.calling g mk a) (Vm.Alike.refl U.vm) qK⟩, va_recv hKc hPc (ci := 3) (q0 := 0) rfl rfl, fun U hU hW => ⟨rfl, by rw [hU]; exact hPc, va_K.moved hW.alike hKc⟩⟩ rfl rfl hl.1 rfl (lv_room (Nat.le_of_ble_eq_true rfl)) dX4_pour_2 ⟨Nat.le_of_ble_eq_true rfl, Nat.le_of_ble_eq_true rfl⟩) (fun r_1 hwr_1 => ?_)
  rcases hwr_1 with ⟨rfl, hwr_1⟩ | ⟨rfl, hwr_1⟩
  · refine lv_if_eq (tgt := 27) hx hb dX4_pour_5 (by decide) (fun c_2 => False.elim (by revert c_2; decide)) (fun _ => ?_)
    refine lv_iload_n hx hb dX4_pour_8 rfl (lv_at hl 2 rfl) ?_
    refine lv_if_lt (tgt := 27) hx hb dX4_pour_9 (by decide) (fun c_3 => ?_) (fun c_3 => ?_)
    · have zc_3 : p1.toInt < (0 : Int) := zz_lt rfl (by decide) c_3
      refine lv_iconst (v := (-1)) hx hb dX4_pour_27 (by decide) ?_
      exact W.iret (v := (-1)) hx hb hr (fun t ht hW => ⟨(-1), rfl, by unfold an_pour; first | rw [if_pos (by omega)] | rw [if_neg (by omega)], ht⟩) (fun q h => by cases h) dX4_pour_28
    · have zc_3 : p1.toInt ≥ (0 : Int) := zz_nlt rfl (by decide) c_3
      refine lv_iload_n hx hb dX4_pour_12 rfl (lv_at hl 2 rfl) ?_
      refine lv_aload_n hx hb dX4_pour_13 rfl (lv_at hl 0 rfl) ?_
      refine va_get (D := (dC, dI)) (ci := 3) (v := .ref h2) (C := RX4) (T := TX4) (N := 3) hx hb hts (by decide +kernel) hown hK hP 0 rfl rfl 1 (by decide) (hts (.fieldLink RX4 18 "SignForms" "outRow" "LSignForms$OutRow;") (by decide +kernel)) (fun _ h9 => h9) rfl dX4_pour_14 ?_
      refine va_get (D := (dC, dI)) (ci := 0) (v := .int 0) (C := RX1) (T := TX1) (N := 2) hx hb hts (by decide +kernel) hown hK hP 2 rfl rfl 1 (by decide) (hts (.fieldLink RX4 56 "SignForms$OutRow" "count" "I") (by decide +kernel)) (fun _ h9 => h9) rfl dX4_pour_17 ?_
      refine lv_icmp_gt (tgt := 27) hx hb dX4_pour_20 (by decide) (fun c_4 => ?_) (fun c_4 => ?_)
      · have zc_4 : (0 : Int) < p1.toInt := zz_lt (by decide) rfl c_4
        refine lv_iconst (v := (-1)) hx hb dX4_pour_27 (by decide) ?_
        exact W.iret (v := (-1)) hx hb hr (fun t ht hW => ⟨(-1), rfl, by unfold an_pour; first | rw [if_pos (by omega)] | rw [if_neg (by omega)], ht⟩) (fun q h => by cases h) dX4_pour_28
      · have zc_4 : (0 : Int) ≥ p1.toInt := zz_nlt (by decide) rfl c_4
        refine lv_iload_n hx hb dX4_pour_23 rfl (lv_at hl 3 rfl) ?_
        refine lv_if_ge (tgt := 29) hx hb dX4_pour_24 (by decide) (fun c_5 => ?_) (fun c_5 => ?_)
        · have zc_5 : (0 : Int) ≤ p2.toInt := zz_le (by decide) rfl c_5
          refine lv_aload_n hx hb dX4_pour_29 rfl (lv_at hl 0 rfl) ?_
          refine va_get (D := (dC, dI)) (ci := 3) (v := .ref h1) (C := RX4) (T := TX4) (N := 3) hx hb hts (by decide +kernel) hown hK hP 0 rfl rfl 0 (by decide) (hts (.fieldLink RX4 11 "SignForms" "streams" "[LSignForms$Stream;") (by decide +kernel)) (fun _ h9 => h9) rfl dX4_pour_30 ?_
          refine lv_iload_n hx hb dX4_pour_33 rfl (lv_at hl 1 rfl) ?_
          refine va_aldq hx hb hK hP 1 0 rfl rfl (vp_in_iff.mpr (by omega)) dX4_pour_34 ?_
          refine W.eq (g2 := F0 m 35 ls [.null]) rfl ?_
          refine lv_astoreN (lv' := [(4, .null), (0, .ref h0), (1, .int p0), (2, .int p1), (3, .int p2)]) hx hb dX4_pour_35 hl (by decide) rfl (fun ls hl => ?_)
          refine lv_aloadN hx hb dX4_pour_37 (lv_at hl 0 rfl) ?_
          refine lv_ifnullN (tgt := 50) hx hb dX4_pour_39 (by decide) ?_
          refine lv_bipush (v := (-2)) hx hb dX4_pour_50 (by decide) ?_
          exact W.iret (v := (-2)) hx hb hr (fun t ht hW => ⟨(-2), rfl, by unfold an_pour; first | rw [if_pos (by omega)] | rw [if_neg (by omega)], ht⟩) (fun q h => by cases h) dX4_pour_52
        · have zc_5 : (0 : Int) > p2.toInt := zz_nle (by decide) rfl c_5
          refine lv_iconst (v := (-1)) hx hb dX4_pour_27 (by decide) ?_
          exact W.iret (v := (-1)) hx hb hr (fun t ht hW => ⟨(-1), rfl, by unfold an_pour; first | rw [if_pos (by omega)] | rw [if_neg (by omega)], ht⟩) (fun q h => by cases h) dX4_pour_28
  · refine lv_if_eq (tgt := 27) hx hb dX4_pour_5 (by decide) (fun _ => ?_) (fun c_6 => False.elim (by revert c_6; decide))
    refine lv_iconst (v := (-1)) hx hb dX4_pour_27 (by decide) ?_
    exact W.iret (v := (-1)) hx hb hr (fun t ht hW => ⟨(-1), rfl, by unfold an_pour; first | rw [if_pos (by omega)] | rw [if_neg (by omega)], ht⟩) (fun q h => by cases h) dX4_pour_28
set_option maxHeartbeats 4000000 in
set_option maxRecDepth 100000 in
theorem kX4_end (l : Launch) (dC : Nat → ClassId) (dI : Nat → Nat → Nat) (h0 h1 h2 h4 : Nat) (kS : ClassId) (p0 : Int32) : Met l yX4_end wsX4_end ({ frames := 1, cells := 0, slots := 0, locals := 21 } : Room) (va_Pc [.ref h0, .int p0] (fun U => va_P (dC, dI) vwCl [(h0, .inr (3, [.ref h1, .ref h2, .ref h4])), (h1, .inl (kS, 4, .inr (.inr (.inr (.inr (fun _ => none))))))] U.heap ∧ va_K (dC, dI) vwCl [(kS, .object "SignForms$Stream")] U)) (vp_Si (fun r => r = an_end p0)) 0 0 (fun _ => False) := by
  refine Met.ofW (cc := cX4_end) (maxL := 3) (ret := (some .int)) (by decide) rfl ?_
  intro p e s m args below meth c s₁ B hml hv
  obtain ⟨rfl, hP, hK⟩ := hv
  have hx := B.exec
  have hb := B.bytes
  have hr := B.returns
  have hts := atoms_spec (ws := wsX4_end) B.pre
  have hown : s.vm.findClass RX4 = some m.cls := findClass_of_methodNamed B.named
  have hlocks := B.notSynchronized
  have hl := lv_entry ([.ref h0, .int p0]) (n := 3) (Nat.le_of_ble_eq_true rfl)
  rw [lg_entry_eq]
  generalize (lg_sl ([.ref h0, .int p0]) ++ List.replicate (3 - (lg_sl ([.ref h0, .int p0])).length) Slot.unset).toArray = ls at hl ⊢
  have hl : lv_has ls 3 [(0, .ref h0), (1, .int p0)] := hl
  refine lv_aload_n hx hb dX4_end_0 rfl (lv_at hl 0 rfl) ?_
  refine lv_iload_n hx hb dX4_end_1 rfl (lv_at hl 1 rfl) ?_
  have hPc := hP.sub (ws' := [(h0, .inr (3, [.ref h1, .ref h2, .ref h4])), (h1, .inl (kS, 4, .inr (.inr (.inr (.inr (fun _ => none))))))]) [0, 1] rfl
  have hKc := hK.sub (tys' := [(kS, .object "SignForms$Stream")]) [0] rfl
  refine vp_callSi (W.runV (As := [.int p0]) (rest := []) ⟨hx, hb, hml, hown, hts⟩ (kX4_isStream l dC dI h0 h1 h2 h4 kS p0) (cwV 1 hts gX4_end_X4_isStream rfl rfl rfl (by decide +kernel) ⟨Nat.le_of_ble_eq_true rfl, Nat.le_of_ble_eq_true rfl⟩) ⟨fun a U g mk q => by obtain ⟨q0, qP, qK⟩ := q; exact ⟨q0, qP, va_K.moved (u := U) (U := U.calling g mk a) (Vm.Alike.refl U.vm) qK⟩, va_recv hKc hPc (ci := 3) (q0 := 0) rfl rfl, fun U hU hW => ⟨rfl, by rw [hU]; exact hPc, va_K.moved hW.alike hKc⟩⟩ rfl rfl hl.1 rfl (lv_room (Nat.le_of_ble_eq_true rfl)) dX4_end_2 ⟨Nat.le_of_ble_eq_true rfl, Nat.le_of_ble_eq_true rfl⟩) (fun r_1 hwr_1 => ?_)
  rcases hwr_1 with ⟨rfl, hwr_1⟩ | ⟨rfl, hwr_1⟩
  · refine lv_if_ne (tgt := 10) hx hb dX4_end_5 (by decide) (fun _ => ?_) (fun c_2 => False.elim (by revert c_2; decide))
    refine lv_aload_n hx hb dX4_end_10 rfl (lv_at hl 0 rfl) ?_
    refine va_get (D := (dC, dI)) (ci := 3) (v := .ref h1) (C := RX4) (T := TX4) (N := 3) hx hb hts (by decide +kernel) hown hK hP 0 rfl rfl 0 (by decide) (hts (.fieldLink RX4 11 "SignForms" "streams" "[LSignForms$Stream;") (by decide +kernel)) (fun _ h9 => h9) rfl dX4_end_11 ?_
    refine lv_iload_n hx hb dX4_end_14 rfl (lv_at hl 1 rfl) ?_
    refine va_aldq hx hb hK hP 1 0 rfl rfl (vp_in_iff.mpr (by omega)) dX4_end_15 ?_
    refine W.eq (g2 := F0 m 16 ls [.null]) rfl ?_
    refine lv_astore_nN (lv' := [(2, .null), (0, .ref h0), (1, .int p0)]) hx hb dX4_end_16 rfl hl (by decide) rfl (fun ls hl => ?_)
    refine lv_aload_nN hx hb dX4_end_17 rfl (lv_at hl 0 rfl) ?_
    refine lv_ifnullN (tgt := 28) hx hb dX4_end_18 (by decide) ?_
    refine lv_bipush (v := (-2)) hx hb dX4_end_28 (by decide) ?_
    exact W.iret (v := (-2)) hx hb hr (fun t ht hW => ⟨(-2), rfl, by unfold an_end; first | rw [if_pos (by omega)] | rw [if_neg (by omega)], ht⟩) (fun q h => by cases h) dX4_end_30
  · refine lv_if_ne (tgt := 10) hx hb dX4_end_5 (by decide) (fun c_3 => False.elim (by revert c_3; decide)) (fun _ => ?_)
    refine lv_iconst (v := (-1)) hx hb dX4_end_8 (by decide) ?_
    exact W.iret (v := (-1)) hx hb hr (fun t ht hW => ⟨(-1), rfl, by unfold an_end; first | rw [if_pos (by omega)] | rw [if_neg (by omega)], ht⟩) (fun q h => by cases h) dX4_end_9
set_option maxHeartbeats 4000000 in
set_option maxRecDepth 100000 in
theorem kX4_about (l : Launch) (dC : Nat → ClassId) (dI : Nat → Nat → Nat) (h0 h1 h2 h4 : Nat) (kS : ClassId) (p0 : Int32) (p1 : Int32) : Met l yX4_about wsX4_about ({ frames := 1, cells := 0, slots := 0, locals := 21 } : Room) (va_Pc [.ref h0, .int p0, .int p1] (fun U => va_P (dC, dI) vwCl [(h0, .inr (3, [.ref h1, .ref h2, .ref h4])), (h1, .inl (kS, 4, .inr (.inr (.inr (.inr (fun _ => none))))))] U.heap ∧ va_K (dC, dI) vwCl [(kS, .object "SignForms$Stream")] U)) (vp_Si (fun r => r = an_about p0 p1)) 0 0 (fun _ => False) := by
  refine Met.ofW (cc := cX4_about) (maxL := 4) (ret := (some .int)) (by decide) rfl ?_
  intro p e s m args below meth c s₁ B hml hv
  obtain ⟨rfl, hP, hK⟩ := hv
  have hx := B.exec
  have hb := B.bytes
  have hr := B.returns
  have hts := atoms_spec (ws := wsX4_about) B.pre
  have hown : s.vm.findClass RX4 = some m.cls := findClass_of_methodNamed B.named
  have hlocks := B.notSynchronized
  have hl := lv_entry ([.ref h0, .int p0, .int p1]) (n := 4) (Nat.le_of_ble_eq_true rfl)
  rw [lg_entry_eq]
  generalize (lg_sl ([.ref h0, .int p0, .int p1]) ++ List.replicate (4 - (lg_sl ([.ref h0, .int p0, .int p1])).length) Slot.unset).toArray = ls at hl ⊢
  have hl : lv_has ls 4 [(0, .ref h0), (1, .int p0), (2, .int p1)] := hl
  refine lv_aload_n hx hb dX4_about_0 rfl (lv_at hl 0 rfl) ?_
  refine lv_iload_n hx hb dX4_about_1 rfl (lv_at hl 1 rfl) ?_
  have hPc := hP.sub (ws' := [(h0, .inr (3, [.ref h1, .ref h2, .ref h4])), (h1, .inl (kS, 4, .inr (.inr (.inr (.inr (fun _ => none))))))]) [0, 1] rfl
  have hKc := hK.sub (tys' := [(kS, .object "SignForms$Stream")]) [0] rfl
  refine vp_callSi (W.runV (As := [.int p0]) (rest := []) ⟨hx, hb, hml, hown, hts⟩ (kX4_isStream l dC dI h0 h1 h2 h4 kS p0) (cwV 1 hts gX4_about_X4_isStream rfl rfl rfl (by decide +kernel) ⟨Nat.le_of_ble_eq_true rfl, Nat.le_of_ble_eq_true rfl⟩) ⟨fun a U g mk q => by obtain ⟨q0, qP, qK⟩ := q; exact ⟨q0, qP, va_K.moved (u := U) (U := U.calling g mk a) (Vm.Alike.refl U.vm) qK⟩, va_recv hKc hPc (ci := 3) (q0 := 0) rfl rfl, fun U hU hW => ⟨rfl, by rw [hU]; exact hPc, va_K.moved hW.alike hKc⟩⟩ rfl rfl hl.1 rfl (lv_room (Nat.le_of_ble_eq_true rfl)) dX4_about_2 ⟨Nat.le_of_ble_eq_true rfl, Nat.le_of_ble_eq_true rfl⟩) (fun r_1 hwr_1 => ?_)
  rcases hwr_1 with ⟨rfl, hwr_1⟩ | ⟨rfl, hwr_1⟩
  · refine lv_if_eq (tgt := 18) hx hb dX4_about_5 (by decide) (fun c_2 => False.elim (by revert c_2; decide)) (fun _ => ?_)
    refine lv_iload_n hx hb dX4_about_8 rfl (lv_at hl 2 rfl) ?_
    refine lv_if_lt (tgt := 18) hx hb dX4_about_9 (by decide) (fun c_3 => ?_) (fun c_3 => ?_)
    · have zc_3 : p1.toInt < (0 : Int) := zz_lt rfl (by decide) c_3
      refine lv_iconst (v := (-1)) hx hb dX4_about_18 (by decide) ?_
      exact W.iret (v := (-1)) hx hb hr (fun t ht hW => ⟨(-1), rfl, by unfold an_about; first | rw [if_pos (by omega)] | rw [if_neg (by omega)], ht⟩) (fun q h => by cases h) dX4_about_19
    · have zc_3 : p1.toInt ≥ (0 : Int) := zz_nlt rfl (by decide) c_3
      refine lv_iload_n hx hb dX4_about_12 rfl (lv_at hl 2 rfl) ?_
      refine lv_bipush (v := 8) hx hb dX4_about_13 (by decide) ?_
      refine lv_icmp_le (tgt := 20) hx hb dX4_about_15 (by decide) (fun c_4 => ?_) (fun c_4 => ?_)
      · have zc_4 : p1.toInt ≤ (8 : Int) := zz_le rfl (by decide) c_4
        refine lv_aload_n hx hb dX4_about_20 rfl (lv_at hl 0 rfl) ?_
        refine va_get (D := (dC, dI)) (ci := 3) (v := .ref h1) (C := RX4) (T := TX4) (N := 3) hx hb hts (by decide +kernel) hown hK hP 0 rfl rfl 0 (by decide) (hts (.fieldLink RX4 11 "SignForms" "streams" "[LSignForms$Stream;") (by decide +kernel)) (fun _ h9 => h9) rfl dX4_about_21 ?_
        refine lv_iload_n hx hb dX4_about_24 rfl (lv_at hl 1 rfl) ?_
        refine va_aldq hx hb hK hP 1 0 rfl rfl (vp_in_iff.mpr (by omega)) dX4_about_25 ?_
        refine W.eq (g2 := F0 m 26 ls [.null]) rfl ?_
        refine lv_astore_nN (lv' := [(3, .null), (0, .ref h0), (1, .int p0), (2, .int p1)]) hx hb dX4_about_26 rfl hl (by decide) rfl (fun ls hl => ?_)
        refine lv_aload_nN hx hb dX4_about_27 rfl (lv_at hl 0 rfl) ?_
        refine lv_ifnonnullN hx hb dX4_about_28 ?_
        refine lv_bipush (v := (-2)) hx hb dX4_about_31 (by decide) ?_
        refine lv_goto (tgt := 41) hx hb dX4_about_33 (by decide) ?_
        exact W.iret (v := (-2)) hx hb hr (fun t ht hW => ⟨(-2), rfl, by unfold an_about; first | rw [if_pos (by omega)] | rw [if_neg (by omega)], ht⟩) (fun q h => by cases h) dX4_about_41
      · have zc_4 : p1.toInt > (8 : Int) := zz_nle rfl (by decide) c_4
        refine lv_iconst (v := (-1)) hx hb dX4_about_18 (by decide) ?_
        exact W.iret (v := (-1)) hx hb hr (fun t ht hW => ⟨(-1), rfl, by unfold an_about; first | rw [if_pos (by omega)] | rw [if_neg (by omega)], ht⟩) (fun q h => by cases h) dX4_about_19
  · refine lv_if_eq (tgt := 18) hx hb dX4_about_5 (by decide) (fun _ => ?_) (fun c_5 => False.elim (by revert c_5; decide))
    refine lv_iconst (v := (-1)) hx hb dX4_about_18 (by decide) ?_
    exact W.iret (v := (-1)) hx hb hr (fun t ht hW => ⟨(-1), rfl, by unfold an_about; first | rw [if_pos (by omega)] | rw [if_neg (by omega)], ht⟩) (fun q h => by cases h) dX4_about_19
set_option maxHeartbeats 4000000 in
set_option maxRecDepth 100000 in
theorem kX4_sign (l : Launch) (dC : Nat → ClassId) (dI : Nat → Nat → Nat) (h0 h1 h2 h4 : Nat) (kS : ClassId) (p0 : Int32) (p1 : Int32) : Met l yX4_sign wsX4_sign ({ frames := 2, cells := 0, slots := 0, locals := 42 } : Room) (va_Pc [.ref h0, .int p0, .int p1] (fun U => va_P (dC, dI) vwCl [(h0, .inr (3, [.ref h1, .ref h2, .ref h4])), (h1, .inl (kS, 4, .inr (.inr (.inr (.inr (fun _ => none))))))] U.heap ∧ va_K (dC, dI) vwCl [(kS, .object "SignForms$Stream")] U)) (vp_Si (fun r => r = -1)) 0 0 (fun _ => False) := by
  refine Met.ofW (cc := cX4_sign) (maxL := 4) (ret := (some .int)) (by decide) rfl ?_
  intro p e s m args below meth c s₁ B hml hv
  obtain ⟨rfl, hP, hK⟩ := hv
  have hx := B.exec
  have hb := B.bytes
  have hr := B.returns
  have hts := atoms_spec (ws := wsX4_sign) B.pre
  have hown : s.vm.findClass RX4 = some m.cls := findClass_of_methodNamed B.named
  have hlocks := B.notSynchronized
  have hl := lv_entry ([.ref h0, .int p0, .int p1]) (n := 4) (Nat.le_of_ble_eq_true rfl)
  rw [lg_entry_eq]
  generalize (lg_sl ([.ref h0, .int p0, .int p1]) ++ List.replicate (4 - (lg_sl ([.ref h0, .int p0, .int p1])).length) Slot.unset).toArray = ls at hl ⊢
  have hl : lv_has ls 4 [(0, .ref h0), (1, .int p0), (2, .int p1)] := hl
  refine lv_aload_n hx hb dX4_sign_0 rfl (lv_at hl 0 rfl) ?_
  refine lv_iload_n hx hb dX4_sign_1 rfl (lv_at hl 1 rfl) ?_
  have hPc := hP.sub (ws' := [(h0, .inr (3, [.ref h1, .ref h2, .ref h4])), (h1, .inl (kS, 4, .inr (.inr (.inr (.inr (fun _ => none))))))]) [0, 1] rfl
  have hKc := hK.sub (tys' := [(kS, .object "SignForms$Stream")]) [0] rfl
  refine va_csq (W.runV (As := [.int p0]) (rest := []) ⟨hx, hb, hml, hown, hts⟩ (kX4_openStream l dC dI h0 h1 h2 h4 kS p0) (cwV 1 hts gX4_sign_X4_openStream rfl rfl rfl (by decide +kernel) ⟨Nat.le_of_ble_eq_true rfl, Nat.le_of_ble_eq_true rfl⟩) ⟨fun a U g mk q => by obtain ⟨q0, qP, qK⟩ := q; exact ⟨q0, qP, va_K.moved (u := U) (U := U.calling g mk a) (Vm.Alike.refl U.vm) qK⟩, va_recv hKc hPc (ci := 3) (q0 := 0) rfl rfl, fun U hU hW => ⟨rfl, by rw [hU]; exact hPc, va_K.moved hW.alike hKc⟩⟩ rfl rfl hl.1 rfl (lv_room (Nat.le_of_ble_eq_true rfl)) dX4_sign_2 ⟨Nat.le_of_ble_eq_true rfl, Nat.le_of_ble_eq_true rfl⟩) (fun r_1 hwr_1 => ?_)
  subst hwr_1
  refine W.eq (g2 := F0 m 5 ls [.null]) rfl ?_
  refine lv_astore_nN (lv' := [(3, .null), (0, .ref h0), (1, .int p0), (2, .int p1)]) hx hb dX4_sign_5 rfl hl (by decide) rfl (fun ls hl => ?_)
  refine lv_aload_nN hx hb dX4_sign_6 rfl (lv_at hl 0 rfl) ?_
  refine lv_ifnullN (tgt := 18) hx hb dX4_sign_7 (by decide) ?_
  refine lv_iconst (v := (-1)) hx hb dX4_sign_18 (by decide) ?_
  exact W.iret (v := (-1)) hx hb hr (fun t ht hW => ⟨(-1), rfl, rfl, ht⟩) (fun q h => by cases h) dX4_sign_19
set_option maxHeartbeats 4000000 in
set_option maxRecDepth 100000 in
theorem kX4_placed (l : Launch) (dC : Nat → ClassId) (dI : Nat → Nat → Nat) (h0 h1 h2 h4 : Nat) (kS : ClassId) (p0 : Int32) (p1 : Int32) (p2 : Int32) : Met l yX4_placed wsX4_placed ({ frames := 2, cells := 0, slots := 0, locals := 42 } : Room) (va_Pc [.ref h0, .int p0, .int p1, .int p2] (fun U => va_P (dC, dI) vwCl [(h0, .inr (3, [.ref h1, .ref h2, .ref h4])), (h1, .inl (kS, 4, .inr (.inr (.inr (.inr (fun _ => none))))))] U.heap ∧ va_K (dC, dI) vwCl [(kS, .object "SignForms$Stream")] U)) (vp_Si (fun r => r = -1)) 0 0 (fun _ => False) := by
  refine Met.ofW (cc := cX4_placed) (maxL := 5) (ret := (some .int)) (by decide) rfl ?_
  intro p e s m args below meth c s₁ B hml hv
  obtain ⟨rfl, hP, hK⟩ := hv
  have hx := B.exec
  have hb := B.bytes
  have hr := B.returns
  have hts := atoms_spec (ws := wsX4_placed) B.pre
  have hown : s.vm.findClass RX4 = some m.cls := findClass_of_methodNamed B.named
  have hlocks := B.notSynchronized
  have hl := lv_entry ([.ref h0, .int p0, .int p1, .int p2]) (n := 5) (Nat.le_of_ble_eq_true rfl)
  rw [lg_entry_eq]
  generalize (lg_sl ([.ref h0, .int p0, .int p1, .int p2]) ++ List.replicate (5 - (lg_sl ([.ref h0, .int p0, .int p1, .int p2])).length) Slot.unset).toArray = ls at hl ⊢
  have hl : lv_has ls 5 [(0, .ref h0), (1, .int p0), (2, .int p1), (3, .int p2)] := hl
  refine lv_aload_n hx hb dX4_placed_0 rfl (lv_at hl 0 rfl) ?_
  refine lv_iload_n hx hb dX4_placed_1 rfl (lv_at hl 1 rfl) ?_
  have hPc := hP.sub (ws' := [(h0, .inr (3, [.ref h1, .ref h2, .ref h4])), (h1, .inl (kS, 4, .inr (.inr (.inr (.inr (fun _ => none))))))]) [0, 1] rfl
  have hKc := hK.sub (tys' := [(kS, .object "SignForms$Stream")]) [0] rfl
  refine va_csq (W.runV (As := [.int p0]) (rest := []) ⟨hx, hb, hml, hown, hts⟩ (kX4_openStream l dC dI h0 h1 h2 h4 kS p0) (cwV 1 hts gX4_placed_X4_openStream rfl rfl rfl (by decide +kernel) ⟨Nat.le_of_ble_eq_true rfl, Nat.le_of_ble_eq_true rfl⟩) ⟨fun a U g mk q => by obtain ⟨q0, qP, qK⟩ := q; exact ⟨q0, qP, va_K.moved (u := U) (U := U.calling g mk a) (Vm.Alike.refl U.vm) qK⟩, va_recv hKc hPc (ci := 3) (q0 := 0) rfl rfl, fun U hU hW => ⟨rfl, by rw [hU]; exact hPc, va_K.moved hW.alike hKc⟩⟩ rfl rfl hl.1 rfl (lv_room (Nat.le_of_ble_eq_true rfl)) dX4_placed_2 ⟨Nat.le_of_ble_eq_true rfl, Nat.le_of_ble_eq_true rfl⟩) (fun r_1 hwr_1 => ?_)
  subst hwr_1
  refine W.eq (g2 := F0 m 5 ls [.null]) rfl ?_
  refine lv_astoreN (lv' := [(4, .null), (0, .ref h0), (1, .int p0), (2, .int p1), (3, .int p2)]) hx hb dX4_placed_5 hl (by decide) rfl (fun ls hl => ?_)
  refine lv_aloadN hx hb dX4_placed_7 (lv_at hl 0 rfl) ?_
  refine lv_ifnullN (tgt := 21) hx hb dX4_placed_9 (by decide) ?_
  refine lv_iconst (v := (-1)) hx hb dX4_placed_21 (by decide) ?_
  exact W.iret (v := (-1)) hx hb hr (fun t ht hW => ⟨(-1), rfl, rfl, ht⟩) (fun q h => by cases h) dX4_placed_22
set_option maxHeartbeats 4000000 in
set_option maxRecDepth 100000 in
theorem kX4_at (l : Launch) (dC : Nat → ClassId) (dI : Nat → Nat → Nat) (h0 h1 h2 h4 : Nat) (kS : ClassId) (p0 : Int32) (p1 : Int32) : Met l yX4_at wsX4_at ({ frames := 2, cells := 0, slots := 0, locals := 42 } : Room) (va_Pc [.ref h0, .int p0, .int p1] (fun U => va_P (dC, dI) vwCl [(h0, .inr (3, [.ref h1, .ref h2, .ref h4])), (h1, .inl (kS, 4, .inr (.inr (.inr (.inr (fun _ => none))))))] U.heap ∧ va_K (dC, dI) vwCl [(kS, .object "SignForms$Stream")] U)) (vp_Si (fun r => r = -1)) 0 0 (fun _ => False) := by
  refine Met.ofW (cc := cX4_at) (maxL := 4) (ret := (some .int)) (by decide) rfl ?_
  intro p e s m args below meth c s₁ B hml hv
  obtain ⟨rfl, hP, hK⟩ := hv
  have hx := B.exec
  have hb := B.bytes
  have hr := B.returns
  have hts := atoms_spec (ws := wsX4_at) B.pre
  have hown : s.vm.findClass RX4 = some m.cls := findClass_of_methodNamed B.named
  have hlocks := B.notSynchronized
  have hl := lv_entry ([.ref h0, .int p0, .int p1]) (n := 4) (Nat.le_of_ble_eq_true rfl)
  rw [lg_entry_eq]
  generalize (lg_sl ([.ref h0, .int p0, .int p1]) ++ List.replicate (4 - (lg_sl ([.ref h0, .int p0, .int p1])).length) Slot.unset).toArray = ls at hl ⊢
  have hl : lv_has ls 4 [(0, .ref h0), (1, .int p0), (2, .int p1)] := hl
  refine lv_aload_n hx hb dX4_at_0 rfl (lv_at hl 0 rfl) ?_
  refine lv_iload_n hx hb dX4_at_1 rfl (lv_at hl 1 rfl) ?_
  have hPc := hP.sub (ws' := [(h0, .inr (3, [.ref h1, .ref h2, .ref h4])), (h1, .inl (kS, 4, .inr (.inr (.inr (.inr (fun _ => none))))))]) [0, 1] rfl
  have hKc := hK.sub (tys' := [(kS, .object "SignForms$Stream")]) [0] rfl
  refine va_csq (W.runV (As := [.int p0]) (rest := []) ⟨hx, hb, hml, hown, hts⟩ (kX4_openStream l dC dI h0 h1 h2 h4 kS p0) (cwV 1 hts gX4_at_X4_openStream rfl rfl rfl (by decide +kernel) ⟨Nat.le_of_ble_eq_true rfl, Nat.le_of_ble_eq_true rfl⟩) ⟨fun a U g mk q => by obtain ⟨q0, qP, qK⟩ := q; exact ⟨q0, qP, va_K.moved (u := U) (U := U.calling g mk a) (Vm.Alike.refl U.vm) qK⟩, va_recv hKc hPc (ci := 3) (q0 := 0) rfl rfl, fun U hU hW => ⟨rfl, by rw [hU]; exact hPc, va_K.moved hW.alike hKc⟩⟩ rfl rfl hl.1 rfl (lv_room (Nat.le_of_ble_eq_true rfl)) dX4_at_2 ⟨Nat.le_of_ble_eq_true rfl, Nat.le_of_ble_eq_true rfl⟩) (fun r_1 hwr_1 => ?_)
  subst hwr_1
  refine W.eq (g2 := F0 m 5 ls [.null]) rfl ?_
  refine lv_astore_nN (lv' := [(3, .null), (0, .ref h0), (1, .int p0), (2, .int p1)]) hx hb dX4_at_5 rfl hl (by decide) rfl (fun ls hl => ?_)
  refine lv_aload_nN hx hb dX4_at_6 rfl (lv_at hl 0 rfl) ?_
  refine lv_ifnonnullN hx hb dX4_at_7 ?_
  refine lv_iconst (v := (-1)) hx hb dX4_at_10 (by decide) ?_
  refine lv_goto (tgt := 19) hx hb dX4_at_11 (by decide) ?_
  exact W.iret (v := (-1)) hx hb hr (fun t ht hW => ⟨(-1), rfl, rfl, ht⟩) (fun q h => by cases h) dX4_at_19
set_option maxHeartbeats 4000000 in
set_option maxRecDepth 100000 in
theorem kX4_write (l : Launch) (dC : Nat → ClassId) (dI : Nat → Nat → Nat) (h0 h1 h2 h4 : Nat) (kS : ClassId) (p0 : Int32) (p1 : Int32) (p2 : Int32) : Met l yX4_write wsX4_write ({ frames := 1, cells := 0, slots := 0, locals := 21 } : Room) (va_Pc [.ref h0, .int p0, .int p1, .int p2] (fun U => va_P (dC, dI) vwCl [(h0, .inr (3, [.ref h1, .ref h2, .ref h4])), (h1, .inl (kS, 4, .inr (.inr (.inr (.inr (fun _ => none))))))] U.heap ∧ va_K (dC, dI) vwCl [(kS, .object "SignForms$Stream")] U)) (vp_Si (fun r => r = an_write p0 p1)) 0 0 (fun _ => False) := by
  refine Met.ofW (cc := cX4_write) (maxL := 7) (ret := (some .int)) (by decide) rfl ?_
  intro p e s m args below meth c s₁ B hml hv
  obtain ⟨rfl, hP, hK⟩ := hv
  have hx := B.exec
  have hb := B.bytes
  have hr := B.returns
  have hts := atoms_spec (ws := wsX4_write) B.pre
  have hown : s.vm.findClass RX4 = some m.cls := findClass_of_methodNamed B.named
  have hlocks := B.notSynchronized
  have hl := lv_entry ([.ref h0, .int p0, .int p1, .int p2]) (n := 7) (Nat.le_of_ble_eq_true rfl)
  rw [lg_entry_eq]
  generalize (lg_sl ([.ref h0, .int p0, .int p1, .int p2]) ++ List.replicate (7 - (lg_sl ([.ref h0, .int p0, .int p1, .int p2])).length) Slot.unset).toArray = ls at hl ⊢
  have hl : lv_has ls 7 [(0, .ref h0), (1, .int p0), (2, .int p1), (3, .int p2)] := hl
  refine lv_aload_n hx hb dX4_write_0 rfl (lv_at hl 0 rfl) ?_
  refine lv_iload_n hx hb dX4_write_1 rfl (lv_at hl 1 rfl) ?_
  have hPc := hP.sub (ws' := [(h0, .inr (3, [.ref h1, .ref h2, .ref h4])), (h1, .inl (kS, 4, .inr (.inr (.inr (.inr (fun _ => none))))))]) [0, 1] rfl
  have hKc := hK.sub (tys' := [(kS, .object "SignForms$Stream")]) [0] rfl
  refine vp_callSi (W.runV (As := [.int p0]) (rest := []) ⟨hx, hb, hml, hown, hts⟩ (kX4_isStream l dC dI h0 h1 h2 h4 kS p0) (cwV 1 hts gX4_write_X4_isStream rfl rfl rfl (by decide +kernel) ⟨Nat.le_of_ble_eq_true rfl, Nat.le_of_ble_eq_true rfl⟩) ⟨fun a U g mk q => by obtain ⟨q0, qP, qK⟩ := q; exact ⟨q0, qP, va_K.moved (u := U) (U := U.calling g mk a) (Vm.Alike.refl U.vm) qK⟩, va_recv hKc hPc (ci := 3) (q0 := 0) rfl rfl, fun U hU hW => ⟨rfl, by rw [hU]; exact hPc, va_K.moved hW.alike hKc⟩⟩ rfl rfl hl.1 rfl (lv_room (Nat.le_of_ble_eq_true rfl)) dX4_write_2 ⟨Nat.le_of_ble_eq_true rfl, Nat.le_of_ble_eq_true rfl⟩) (fun r_1 hwr_1 => ?_)
  rcases hwr_1 with ⟨rfl, hwr_1⟩ | ⟨rfl, hwr_1⟩
  · refine lv_if_eq (tgt := 15) hx hb dX4_write_5 (by decide) (fun c_2 => False.elim (by revert c_2; decide)) (fun _ => ?_)
    refine lv_iload_n hx hb dX4_write_8 rfl (lv_at hl 2 rfl) ?_
    refine vp_callSi (W.runS (As := [.int p1]) (rest := []) ⟨hx, hb, hml, hown, hts⟩ (kX4_isWritable l p1) (va_cwS 1 hts gX4_write_X4_isWritable rfl rfl rfl (by decide +kernel) ⟨Nat.le_of_ble_eq_true rfl, Nat.le_of_ble_eq_true rfl⟩) ⟨fun a U g mk q => q, fun U hU hW => ⟨rfl, trivial⟩⟩ rfl rfl hl.1 rfl (lv_room (Nat.le_of_ble_eq_true rfl)) dX4_write_9 ⟨Nat.le_of_ble_eq_true rfl, Nat.le_of_ble_eq_true rfl⟩) (fun r_3 hwr_3 => ?_)
    rcases hwr_3 with ⟨rfl, hwr_3⟩ | ⟨rfl, hwr_3⟩
    · refine lv_if_ne (tgt := 17) hx hb dX4_write_12 (by decide) (fun _ => ?_) (fun c_4 => False.elim (by revert c_4; decide))
      refine lv_aload_n hx hb dX4_write_17 rfl (lv_at hl 0 rfl) ?_
      refine va_get (D := (dC, dI)) (ci := 3) (v := .ref h1) (C := RX4) (T := TX4) (N := 3) hx hb hts (by decide +kernel) hown hK hP 0 rfl rfl 0 (by decide) (hts (.fieldLink RX4 11 "SignForms" "streams" "[LSignForms$Stream;") (by decide +kernel)) (fun _ h9 => h9) rfl dX4_write_18 ?_
      refine lv_iload_n hx hb dX4_write_21 rfl (lv_at hl 1 rfl) ?_
      refine va_aldq hx hb hK hP 1 0 rfl rfl (vp_in_iff.mpr (by omega)) dX4_write_22 ?_
      refine W.eq (g2 := F0 m 23 ls [.null]) rfl ?_
      refine lv_astoreN (lv' := [(4, .null), (0, .ref h0), (1, .int p0), (2, .int p1), (3, .int p2)]) hx hb dX4_write_23 hl (by decide) rfl (fun ls hl => ?_)
      refine lv_aloadN hx hb dX4_write_25 (lv_at hl 0 rfl) ?_
      refine lv_ifnonnullN hx hb dX4_write_27 ?_
      refine lv_bipush (v := (-2)) hx hb dX4_write_30 (by decide) ?_
      exact W.iret (v := (-2)) hx hb hr (fun t ht hW => ⟨(-2), rfl, by unfold an_write; first | rw [if_pos (by omega)] | rw [if_neg (by omega)], ht⟩) (fun q h => by cases h) dX4_write_32
    · refine lv_if_ne (tgt := 17) hx hb dX4_write_12 (by decide) (fun c_5 => False.elim (by revert c_5; decide)) (fun _ => ?_)
      refine lv_iconst (v := (-1)) hx hb dX4_write_15 (by decide) ?_
      exact W.iret (v := (-1)) hx hb hr (fun t ht hW => ⟨(-1), rfl, by unfold an_write; first | rw [if_pos (by omega)] | rw [if_neg (by omega)], ht⟩) (fun q h => by cases h) dX4_write_16
  · refine lv_if_eq (tgt := 15) hx hb dX4_write_5 (by decide) (fun _ => ?_) (fun c_6 => False.elim (by revert c_6; decide))
    refine lv_iconst (v := (-1)) hx hb dX4_write_15 (by decide) ?_
    exact W.iret (v := (-1)) hx hb hr (fun t ht hW => ⟨(-1), rfl, by unfold an_write; first | rw [if_pos (by omega)] | rw [if_neg (by omega)], ht⟩) (fun q h => by cases h) dX4_write_16
set_option maxHeartbeats 4000000 in
set_option maxRecDepth 100000 in
theorem kX4_size (l : Launch) (dC : Nat → ClassId) (dI : Nat → Nat → Nat) (h0 h1 h2 h4 : Nat) (kS : ClassId) (p0 : Int32) (p1 : Int32) (p2 : Int32) (p3 : Int32) : Met l yX4_size wsX4_size ({ frames := 1, cells := 0, slots := 0, locals := 21 } : Room) (va_Pc [.ref h0, .int p0, .int p1, .int p2, .int p3] (fun U => va_P (dC, dI) vwCl [(h0, .inr (3, [.ref h1, .ref h2, .ref h4])), (h1, .inl (kS, 4, .inr (.inr (.inr (.inr (fun _ => none))))))] U.heap ∧ va_K (dC, dI) vwCl [(kS, .object "SignForms$Stream")] U)) (vp_Si (fun r => r = an_write p0 p1)) 0 0 (fun _ => False) := by
  refine Met.ofW (cc := cX4_size) (maxL := 6) (ret := (some .int)) (by decide) rfl ?_
  intro p e s m args below meth c s₁ B hml hv
  obtain ⟨rfl, hP, hK⟩ := hv
  have hx := B.exec
  have hb := B.bytes
  have hr := B.returns
  have hts := atoms_spec (ws := wsX4_size) B.pre
  have hown : s.vm.findClass RX4 = some m.cls := findClass_of_methodNamed B.named
  have hlocks := B.notSynchronized
  have hl := lv_entry ([.ref h0, .int p0, .int p1, .int p2, .int p3]) (n := 6) (Nat.le_of_ble_eq_true rfl)
  rw [lg_entry_eq]
  generalize (lg_sl ([.ref h0, .int p0, .int p1, .int p2, .int p3]) ++ List.replicate (6 - (lg_sl ([.ref h0, .int p0, .int p1, .int p2, .int p3])).length) Slot.unset).toArray = ls at hl ⊢
  have hl : lv_has ls 6 [(0, .ref h0), (1, .int p0), (2, .int p1), (3, .int p2), (4, .int p3)] := hl
  refine lv_aload_n hx hb dX4_size_0 rfl (lv_at hl 0 rfl) ?_
  refine lv_iload_n hx hb dX4_size_1 rfl (lv_at hl 1 rfl) ?_
  have hPc := hP.sub (ws' := [(h0, .inr (3, [.ref h1, .ref h2, .ref h4])), (h1, .inl (kS, 4, .inr (.inr (.inr (.inr (fun _ => none))))))]) [0, 1] rfl
  have hKc := hK.sub (tys' := [(kS, .object "SignForms$Stream")]) [0] rfl
  refine vp_callSi (W.runV (As := [.int p0]) (rest := []) ⟨hx, hb, hml, hown, hts⟩ (kX4_isStream l dC dI h0 h1 h2 h4 kS p0) (cwV 1 hts gX4_size_X4_isStream rfl rfl rfl (by decide +kernel) ⟨Nat.le_of_ble_eq_true rfl, Nat.le_of_ble_eq_true rfl⟩) ⟨fun a U g mk q => by obtain ⟨q0, qP, qK⟩ := q; exact ⟨q0, qP, va_K.moved (u := U) (U := U.calling g mk a) (Vm.Alike.refl U.vm) qK⟩, va_recv hKc hPc (ci := 3) (q0 := 0) rfl rfl, fun U hU hW => ⟨rfl, by rw [hU]; exact hPc, va_K.moved hW.alike hKc⟩⟩ rfl rfl hl.1 rfl (lv_room (Nat.le_of_ble_eq_true rfl)) dX4_size_2 ⟨Nat.le_of_ble_eq_true rfl, Nat.le_of_ble_eq_true rfl⟩) (fun r_1 hwr_1 => ?_)
  rcases hwr_1 with ⟨rfl, hwr_1⟩ | ⟨rfl, hwr_1⟩
  · refine lv_if_eq (tgt := 15) hx hb dX4_size_5 (by decide) (fun c_2 => False.elim (by revert c_2; decide)) (fun _ => ?_)
    refine lv_iload_n hx hb dX4_size_8 rfl (lv_at hl 2 rfl) ?_
    refine vp_callSi (W.runS (As := [.int p1]) (rest := []) ⟨hx, hb, hml, hown, hts⟩ (kX4_isWritable l p1) (va_cwS 1 hts gX4_size_X4_isWritable rfl rfl rfl (by decide +kernel) ⟨Nat.le_of_ble_eq_true rfl, Nat.le_of_ble_eq_true rfl⟩) ⟨fun a U g mk q => q, fun U hU hW => ⟨rfl, trivial⟩⟩ rfl rfl hl.1 rfl (lv_room (Nat.le_of_ble_eq_true rfl)) dX4_size_9 ⟨Nat.le_of_ble_eq_true rfl, Nat.le_of_ble_eq_true rfl⟩) (fun r_3 hwr_3 => ?_)
    rcases hwr_3 with ⟨rfl, hwr_3⟩ | ⟨rfl, hwr_3⟩
    · refine lv_if_ne (tgt := 17) hx hb dX4_size_12 (by decide) (fun _ => ?_) (fun c_4 => False.elim (by revert c_4; decide))
      refine lv_aload_n hx hb dX4_size_17 rfl (lv_at hl 0 rfl) ?_
      refine va_get (D := (dC, dI)) (ci := 3) (v := .ref h1) (C := RX4) (T := TX4) (N := 3) hx hb hts (by decide +kernel) hown hK hP 0 rfl rfl 0 (by decide) (hts (.fieldLink RX4 11 "SignForms" "streams" "[LSignForms$Stream;") (by decide +kernel)) (fun _ h9 => h9) rfl dX4_size_18 ?_
      refine lv_iload_n hx hb dX4_size_21 rfl (lv_at hl 1 rfl) ?_
      refine va_aldq hx hb hK hP 1 0 rfl rfl (vp_in_iff.mpr (by omega)) dX4_size_22 ?_
      refine W.eq (g2 := F0 m 23 ls [.null]) rfl ?_
      refine lv_astoreN (lv' := [(5, .null), (0, .ref h0), (1, .int p0), (2, .int p1), (3, .int p2), (4, .int p3)]) hx hb dX4_size_23 hl (by decide) rfl (fun ls hl => ?_)
      refine lv_aloadN hx hb dX4_size_25 (lv_at hl 0 rfl) ?_
      refine lv_ifnonnullN hx hb dX4_size_27 ?_
      refine lv_bipush (v := (-2)) hx hb dX4_size_30 (by decide) ?_
      exact W.iret (v := (-2)) hx hb hr (fun t ht hW => ⟨(-2), rfl, by unfold an_write; first | rw [if_pos (by omega)] | rw [if_neg (by omega)], ht⟩) (fun q h => by cases h) dX4_size_32
    · refine lv_if_ne (tgt := 17) hx hb dX4_size_12 (by decide) (fun c_5 => False.elim (by revert c_5; decide)) (fun _ => ?_)
      refine lv_iconst (v := (-1)) hx hb dX4_size_15 (by decide) ?_
      exact W.iret (v := (-1)) hx hb hr (fun t ht hW => ⟨(-1), rfl, by unfold an_write; first | rw [if_pos (by omega)] | rw [if_neg (by omega)], ht⟩) (fun q h => by cases h) dX4_size_16
  · refine lv_if_eq (tgt := 15) hx hb dX4_size_5 (by decide) (fun _ => ?_) (fun c_6 => False.elim (by revert c_6; decide))
    refine lv_iconst (v := (-1)) hx hb dX4_size_15 (by decide) ?_
    exact W.iret (v := (-1)) hx hb hr (fun t ht hW => ⟨(-1), rfl, by unfold an_write; first | rw [if_pos (by omega)] | rw [if_neg (by omega)], ht⟩) (fun q h => by cases h) dX4_size_16
set_option maxHeartbeats 4000000 in
set_option maxRecDepth 100000 in
theorem kX4_out (l : Launch) (dC : Nat → ClassId) (dI : Nat → Nat → Nat) (h0 h1 h2 h3 h4 : Nat) (p0 : Int32) : Met l yX4_out wsX4_out ({ frames := 1, cells := 0, slots := 0, locals := 21 } : Room) (va_Pc [.ref h0, .int p0] (fun U => va_P (dC, dI) vwCl [(h0, .inr (3, [.ref h1, .ref h2, .ref h4])), (h2, .inr (0, [.ref h3, .int 0]))] U.heap ∧ va_K (dC, dI) vwCl [] U)) (vp_Si (fun r => r = -1)) 0 0 (fun _ => False) := by
  refine Met.ofW (cc := cX4_out) (maxL := 2) (ret := (some .int)) (by decide) rfl ?_
  intro p e s m args below meth c s₁ B hml hv
  obtain ⟨rfl, hP, hK⟩ := hv
  have hx := B.exec
  have hb := B.bytes
  have hr := B.returns
  have hts := atoms_spec (ws := wsX4_out) B.pre
  have hown : s.vm.findClass RX4 = some m.cls := findClass_of_methodNamed B.named
  have hlocks := B.notSynchronized
  have hl := lv_entry ([.ref h0, .int p0]) (n := 2) (Nat.le_of_ble_eq_true rfl)
  rw [lg_entry_eq]
  generalize (lg_sl ([.ref h0, .int p0]) ++ List.replicate (2 - (lg_sl ([.ref h0, .int p0])).length) Slot.unset).toArray = ls at hl ⊢
  have hl : lv_has ls 2 [(0, .ref h0), (1, .int p0)] := hl
  refine lv_aload_n hx hb dX4_out_0 rfl (lv_at hl 0 rfl) ?_
  refine va_get (D := (dC, dI)) (ci := 3) (v := .ref h2) (C := RX4) (T := TX4) (N := 3) hx hb hts (by decide +kernel) hown hK hP 0 rfl rfl 1 (by decide) (hts (.fieldLink RX4 18 "SignForms" "outRow" "LSignForms$OutRow;") (by decide +kernel)) (fun _ h9 => h9) rfl dX4_out_1 ?_
  refine lv_iload_n hx hb dX4_out_4 rfl (lv_at hl 1 rfl) ?_
  have hPc := hP.sub (ws' := [(h2, .inr (0, [.ref h3, .int 0]))]) [1] rfl
  have hKc := hK.sub (tys' := []) [] rfl
  refine vp_callSi (W.runV (As := [.int p0]) (rest := []) ⟨hx, hb, hml, hown, hts⟩ (kX1_byteAt l dC dI h2 h3 p0) (cwV 1 hts gX4_out_X1_byteAt rfl rfl rfl (by decide +kernel) ⟨Nat.le_of_ble_eq_true rfl, Nat.le_of_ble_eq_true rfl⟩) ⟨fun a U g mk q => by obtain ⟨q0, qP, qK⟩ := q; exact ⟨q0, qP, va_K.moved (u := U) (U := U.calling g mk a) (Vm.Alike.refl U.vm) qK⟩, va_recv hKc hPc (ci := 0) (q0 := 0) rfl rfl, fun U hU hW => ⟨rfl, by rw [hU]; exact hPc, va_K.moved hW.alike hKc⟩⟩ rfl rfl hl.1 rfl (lv_room (Nat.le_of_ble_eq_true rfl)) dX4_out_5 ⟨Nat.le_of_ble_eq_true rfl, Nat.le_of_ble_eq_true rfl⟩) (fun r_1 hwr_1 => ?_)
  subst hwr_1
  exact W.iret (v := (-1)) hx hb hr (fun t ht hW => ⟨(-1), rfl, rfl, ht⟩) (fun q h => by cases h) dX4_out_8
set_option maxHeartbeats 4000000 in
set_option maxRecDepth 100000 in
theorem kX4_check (l : Launch) (dC : Nat → ClassId) (dI : Nat → Nat → Nat) (h0 h1 h2 h3 h4 : Nat) (p0 : Int32) : Met l yX4_check wsX4_check ({ frames := 1, cells := 0, slots := 0, locals := 20 } : Room) (va_Pc [.ref h0, .int p0] (fun U => va_P (dC, dI) vwCl [(h0, .inr (3, [.ref h1, .ref h2, .ref h4])), (h2, .inr (0, [.ref h3, .int 0]))] U.heap ∧ va_K (dC, dI) vwCl [] U)) (vp_Si (fun r => r = an_check p0)) 0 0 (fun _ => False) := by
  refine Met.ofW (cc := cX4_check) (maxL := 4) (ret := (some .int)) (by decide) rfl ?_
  intro p e s m args below meth c s₁ B hml hv
  obtain ⟨rfl, hP, hK⟩ := hv
  have hx := B.exec
  have hb := B.bytes
  have hr := B.returns
  have hts := atoms_spec (ws := wsX4_check) B.pre
  have hown : s.vm.findClass RX4 = some m.cls := findClass_of_methodNamed B.named
  have hlocks := B.notSynchronized
  have hl := lv_entry ([.ref h0, .int p0]) (n := 4) (Nat.le_of_ble_eq_true rfl)
  rw [lg_entry_eq]
  generalize (lg_sl ([.ref h0, .int p0]) ++ List.replicate (4 - (lg_sl ([.ref h0, .int p0])).length) Slot.unset).toArray = ls at hl ⊢
  have hl : lv_has ls 4 [(0, .ref h0), (1, .int p0)] := hl
  refine lv_iload_n hx hb dX4_check_0 rfl (lv_at hl 1 rfl) ?_
  refine vp_callSi (W.runS (As := [.int p0]) (rest := []) ⟨hx, hb, hml, hown, hts⟩ (kX4_isWritable l p0) (va_cwS 1 hts gX4_check_X4_isWritable rfl rfl rfl (by decide +kernel) ⟨Nat.le_of_ble_eq_true rfl, Nat.le_of_ble_eq_true rfl⟩) ⟨fun a U g mk q => q, fun U hU hW => ⟨rfl, trivial⟩⟩ rfl rfl hl.1 rfl (lv_room (Nat.le_of_ble_eq_true rfl)) dX4_check_1 ⟨Nat.le_of_ble_eq_true rfl, Nat.le_of_ble_eq_true rfl⟩) (fun r_1 hwr_1 => ?_)
  rcases hwr_1 with ⟨rfl, hwr_1⟩ | ⟨rfl, hwr_1⟩
  · refine lv_if_ne (tgt := 9) hx hb dX4_check_4 (by decide) (fun _ => ?_) (fun c_2 => False.elim (by revert c_2; decide))
    refine lv_iconst (v := 0) hx hb dX4_check_9 (by decide) ?_
    refine lv_istore_n (lv' := [(2, .int 0), (0, .ref h0), (1, .int p0)]) hx hb dX4_check_10 rfl hl (by decide) rfl (fun ls hl => ?_)
    refine lv_iconst (v := 0) hx hb dX4_check_11 (by decide) ?_
    refine lv_istore_n (lv' := [(3, .int 0), (2, .int 0), (0, .ref h0), (1, .int p0)]) hx hb dX4_check_12 rfl hl (by decide) rfl (fun ls hl => ?_)
    refine lv_iload_n hx hb dX4_check_13 rfl (lv_at hl 0 rfl) ?_
    refine lv_sipush (v := 6000) hx hb dX4_check_14 (by decide) ?_
    refine lv_icmp_ge (tgt := 83) hx hb dX4_check_17 (by decide) (fun c_3 => False.elim (by revert c_3; decide)) (fun _ => ?_)
    refine lv_iload_n hx hb dX4_check_20 rfl (lv_at hl 1 rfl) ?_
    refine lv_aload_n hx hb dX4_check_21 rfl (lv_at hl 2 rfl) ?_
    refine va_get (D := (dC, dI)) (ci := 3) (v := .ref h2) (C := RX4) (T := TX4) (N := 3) hx hb hts (by decide +kernel) hown hK hP 0 rfl rfl 1 (by decide) (hts (.fieldLink RX4 18 "SignForms" "outRow" "LSignForms$OutRow;") (by decide +kernel)) (fun _ h9 => h9) rfl dX4_check_22 ?_
    refine va_get (D := (dC, dI)) (ci := 0) (v := .int 0) (C := RX1) (T := TX1) (N := 2) hx hb hts (by decide +kernel) hown hK hP 1 rfl rfl 1 (by decide) (hts (.fieldLink RX4 56 "SignForms$OutRow" "count" "I") (by decide +kernel)) (fun _ h9 => h9) rfl dX4_check_25 ?_
    refine lv_icmp_ge (tgt := 83) hx hb dX4_check_28 (by decide) (fun _ => ?_) (fun c_4 => False.elim (by revert c_4; decide))
    refine lv_bipush (v := (-2)) hx hb dX4_check_83 (by decide) ?_
    exact W.iret (v := (-2)) hx hb hr (fun t ht hW => ⟨(-2), rfl, by unfold an_check; first | rw [if_pos (by omega)] | rw [if_neg (by omega)], ht⟩) (fun q h => by cases h) dX4_check_85
  · refine lv_if_ne (tgt := 9) hx hb dX4_check_4 (by decide) (fun c_5 => False.elim (by revert c_5; decide)) (fun _ => ?_)
    refine lv_iconst (v := (-1)) hx hb dX4_check_7 (by decide) ?_
    exact W.iret (v := (-1)) hx hb hr (fun t ht hW => ⟨(-1), rfl, by unfold an_check; first | rw [if_pos (by omega)] | rw [if_neg (by omega)], ht⟩) (fun q h => by cases h) dX4_check_8
set_option maxHeartbeats 4000000 in
set_option maxRecDepth 100000 in
theorem kX4_order (l : Launch) (dC : Nat → ClassId) (dI : Nat → Nat → Nat) (h0 h1 h2 h4 : Nat) (kS : ClassId) (p0 : Int32) (p1 : Int32) (p2 : Int32) : Met l yX4_order wsX4_order ({ frames := 1, cells := 0, slots := 0, locals := 21 } : Room) (va_Pc [.ref h0, .int p0, .int p1, .int p2] (fun U => va_P (dC, dI) vwCl [(h0, .inr (3, [.ref h1, .ref h2, .ref h4])), (h1, .inl (kS, 4, .inr (.inr (.inr (.inr (fun _ => none))))))] U.heap ∧ va_K (dC, dI) vwCl [(kS, .object "SignForms$Stream")] U)) (vp_Si (fun r => r = an_order p0 p1 p2)) 0 0 (fun _ => False) := by
  refine Met.ofW (cc := cX4_order) (maxL := 8) (ret := (some .int)) (by decide) rfl ?_
  intro p e s m args below meth c s₁ B hml hv
  obtain ⟨rfl, hP, hK⟩ := hv
  have hx := B.exec
  have hb := B.bytes
  have hr := B.returns
  have hts := atoms_spec (ws := wsX4_order) B.pre
  have hown : s.vm.findClass RX4 = some m.cls := findClass_of_methodNamed B.named
  have hlocks := B.notSynchronized
  have hl := lv_entry ([.ref h0, .int p0, .int p1, .int p2]) (n := 8) (Nat.le_of_ble_eq_true rfl)
  rw [lg_entry_eq]
  generalize (lg_sl ([.ref h0, .int p0, .int p1, .int p2]) ++ List.replicate (8 - (lg_sl ([.ref h0, .int p0, .int p1, .int p2])).length) Slot.unset).toArray = ls at hl ⊢
  have hl : lv_has ls 8 [(0, .ref h0), (1, .int p0), (2, .int p1), (3, .int p2)] := hl
  refine lv_aload_n hx hb dX4_order_0 rfl (lv_at hl 0 rfl) ?_
  refine lv_iload_n hx hb dX4_order_1 rfl (lv_at hl 1 rfl) ?_
  have hPc := hP.sub (ws' := [(h0, .inr (3, [.ref h1, .ref h2, .ref h4])), (h1, .inl (kS, 4, .inr (.inr (.inr (.inr (fun _ => none))))))]) [0, 1] rfl
  have hKc := hK.sub (tys' := [(kS, .object "SignForms$Stream")]) [0] rfl
  refine vp_callSi (W.runV (As := [.int p0]) (rest := []) ⟨hx, hb, hml, hown, hts⟩ (kX4_isStream l dC dI h0 h1 h2 h4 kS p0) (cwV 1 hts gX4_order_X4_isStream rfl rfl rfl (by decide +kernel) ⟨Nat.le_of_ble_eq_true rfl, Nat.le_of_ble_eq_true rfl⟩) ⟨fun a U g mk q => by obtain ⟨q0, qP, qK⟩ := q; exact ⟨q0, qP, va_K.moved (u := U) (U := U.calling g mk a) (Vm.Alike.refl U.vm) qK⟩, va_recv hKc hPc (ci := 3) (q0 := 0) rfl rfl, fun U hU hW => ⟨rfl, by rw [hU]; exact hPc, va_K.moved hW.alike hKc⟩⟩ rfl rfl hl.1 rfl (lv_room (Nat.le_of_ble_eq_true rfl)) dX4_order_2 ⟨Nat.le_of_ble_eq_true rfl, Nat.le_of_ble_eq_true rfl⟩) (fun r_1 hwr_1 => ?_)
  rcases hwr_1 with ⟨rfl, hwr_1⟩ | ⟨rfl, hwr_1⟩
  · refine lv_if_eq (tgt := 25) hx hb dX4_order_5 (by decide) (fun c_2 => False.elim (by revert c_2; decide)) (fun _ => ?_)
    refine lv_aload_n hx hb dX4_order_8 rfl (lv_at hl 0 rfl) ?_
    refine lv_iload_n hx hb dX4_order_9 rfl (lv_at hl 2 rfl) ?_
    have hPc := hP.sub (ws' := [(h0, .inr (3, [.ref h1, .ref h2, .ref h4])), (h1, .inl (kS, 4, .inr (.inr (.inr (.inr (fun _ => none))))))]) [0, 1] rfl
    have hKc := hK.sub (tys' := [(kS, .object "SignForms$Stream")]) [0] rfl
    refine vp_callSi (W.runV (As := [.int p1]) (rest := []) ⟨hx, hb, hml, hown, hts⟩ (kX4_isStream l dC dI h0 h1 h2 h4 kS p1) (cwV 1 hts gX4_order_X4_isStream rfl rfl rfl (by decide +kernel) ⟨Nat.le_of_ble_eq_true rfl, Nat.le_of_ble_eq_true rfl⟩) ⟨fun a U g mk q => by obtain ⟨q0, qP, qK⟩ := q; exact ⟨q0, qP, va_K.moved (u := U) (U := U.calling g mk a) (Vm.Alike.refl U.vm) qK⟩, va_recv hKc hPc (ci := 3) (q0 := 0) rfl rfl, fun U hU hW => ⟨rfl, by rw [hU]; exact hPc, va_K.moved hW.alike hKc⟩⟩ rfl rfl hl.1 rfl (lv_room (Nat.le_of_ble_eq_true rfl)) dX4_order_10 ⟨Nat.le_of_ble_eq_true rfl, Nat.le_of_ble_eq_true rfl⟩) (fun r_3 hwr_3 => ?_)
    rcases hwr_3 with ⟨rfl, hwr_3⟩ | ⟨rfl, hwr_3⟩
    · refine lv_if_eq (tgt := 25) hx hb dX4_order_13 (by decide) (fun c_4 => False.elim (by revert c_4; decide)) (fun _ => ?_)
      refine lv_iload_n hx hb dX4_order_16 rfl (lv_at hl 3 rfl) ?_
      refine lv_if_lt (tgt := 25) hx hb dX4_order_17 (by decide) (fun c_5 => ?_) (fun c_5 => ?_)
      · have zc_5 : p2.toInt < (0 : Int) := zz_lt rfl (by decide) c_5
        refine lv_iconst (v := (-1)) hx hb dX4_order_25 (by decide) ?_
        exact W.iret (v := (-1)) hx hb hr (fun t ht hW => ⟨(-1), rfl, by unfold an_order; first | rw [if_pos (by omega)] | rw [if_neg (by omega)], ht⟩) (fun q h => by cases h) dX4_order_26
      · have zc_5 : p2.toInt ≥ (0 : Int) := zz_nlt rfl (by decide) c_5
        refine lv_iload_n hx hb dX4_order_20 rfl (lv_at hl 3 rfl) ?_
        refine lv_iconst (v := 2) hx hb dX4_order_21 (by decide) ?_
        refine lv_icmp_le (tgt := 27) hx hb dX4_order_22 (by decide) (fun c_6 => ?_) (fun c_6 => ?_)
        · have zc_6 : p2.toInt ≤ (2 : Int) := zz_le rfl (by decide) c_6
          refine lv_aload_n hx hb dX4_order_27 rfl (lv_at hl 0 rfl) ?_
          refine va_get (D := (dC, dI)) (ci := 3) (v := .ref h1) (C := RX4) (T := TX4) (N := 3) hx hb hts (by decide +kernel) hown hK hP 0 rfl rfl 0 (by decide) (hts (.fieldLink RX4 11 "SignForms" "streams" "[LSignForms$Stream;") (by decide +kernel)) (fun _ h9 => h9) rfl dX4_order_28 ?_
          refine lv_iload_n hx hb dX4_order_31 rfl (lv_at hl 1 rfl) ?_
          refine va_aldq hx hb hK hP 1 0 rfl rfl (vp_in_iff.mpr (by omega)) dX4_order_32 ?_
          refine W.eq (g2 := F0 m 33 ls [.null]) rfl ?_
          refine lv_astoreN (lv' := [(4, .null), (0, .ref h0), (1, .int p0), (2, .int p1), (3, .int p2)]) hx hb dX4_order_33 hl (by decide) rfl (fun ls hl => ?_)
          refine lv_aload_n hx hb dX4_order_35 rfl (lv_at hl 1 rfl) ?_
          refine va_get (D := (dC, dI)) (ci := 3) (v := .ref h1) (C := RX4) (T := TX4) (N := 3) hx hb hts (by decide +kernel) hown hK hP 0 rfl rfl 0 (by decide) (hts (.fieldLink RX4 11 "SignForms" "streams" "[LSignForms$Stream;") (by decide +kernel)) (fun _ h9 => h9) rfl dX4_order_36 ?_
          refine lv_iload_n hx hb dX4_order_39 rfl (lv_at hl 3 rfl) ?_
          refine va_aldq hx hb hK hP 1 0 rfl rfl (vp_in_iff.mpr (by omega)) dX4_order_40 ?_
          refine W.eq (g2 := F0 m 41 ls [.null]) rfl ?_
          refine lv_astoreN (lv' := [(5, .null), (4, .null), (0, .ref h0), (1, .int p0), (2, .int p1), (3, .int p2)]) hx hb dX4_order_41 hl (by decide) rfl (fun ls hl => ?_)
          refine lv_aloadN hx hb dX4_order_43 (lv_at hl 1 rfl) ?_
          refine lv_ifnullN (tgt := 53) hx hb dX4_order_45 (by decide) ?_
          refine lv_bipush (v := (-2)) hx hb dX4_order_53 (by decide) ?_
          exact W.iret (v := (-2)) hx hb hr (fun t ht hW => ⟨(-2), rfl, by unfold an_order; first | rw [if_pos (by omega)] | rw [if_neg (by omega)], ht⟩) (fun q h => by cases h) dX4_order_55
        · have zc_6 : p2.toInt > (2 : Int) := zz_nle rfl (by decide) c_6
          refine lv_iconst (v := (-1)) hx hb dX4_order_25 (by decide) ?_
          exact W.iret (v := (-1)) hx hb hr (fun t ht hW => ⟨(-1), rfl, by unfold an_order; first | rw [if_pos (by omega)] | rw [if_neg (by omega)], ht⟩) (fun q h => by cases h) dX4_order_26
    · refine lv_if_eq (tgt := 25) hx hb dX4_order_13 (by decide) (fun _ => ?_) (fun c_7 => False.elim (by revert c_7; decide))
      refine lv_iconst (v := (-1)) hx hb dX4_order_25 (by decide) ?_
      exact W.iret (v := (-1)) hx hb hr (fun t ht hW => ⟨(-1), rfl, by unfold an_order; first | rw [if_pos (by omega)] | rw [if_neg (by omega)], ht⟩) (fun q h => by cases h) dX4_order_26
  · refine lv_if_eq (tgt := 25) hx hb dX4_order_5 (by decide) (fun _ => ?_) (fun c_8 => False.elim (by revert c_8; decide))
    refine lv_iconst (v := (-1)) hx hb dX4_order_25 (by decide) ?_
    exact W.iret (v := (-1)) hx hb hr (fun t ht hW => ⟨(-1), rfl, by unfold an_order; first | rw [if_pos (by omega)] | rw [if_neg (by omega)], ht⟩) (fun q h => by cases h) dX4_order_26
set_option maxHeartbeats 4000000 in
set_option maxRecDepth 100000 in
theorem kX4_among (l : Launch) (dC : Nat → ClassId) (dI : Nat → Nat → Nat) (h0 h1 h2 h4 : Nat) (kS : ClassId) (p0 : Int32) (p1 : Int32) (p2 : Int32) : Met l yX4_among wsX4_among ({ frames := 1, cells := 0, slots := 0, locals := 21 } : Room) (va_Pc [.ref h0, .int p0, .int p1, .int p2] (fun U => va_P (dC, dI) vwCl [(h0, .inr (3, [.ref h1, .ref h2, .ref h4])), (h1, .inl (kS, 4, .inr (.inr (.inr (.inr (fun _ => none))))))] U.heap ∧ va_K (dC, dI) vwCl [(kS, .object "SignForms$Stream")] U)) (vp_Si (fun r => r = an_end p0)) 0 0 (fun _ => False) := by
  refine Met.ofW (cc := cX4_among) (maxL := 5) (ret := (some .int)) (by decide) rfl ?_
  intro p e s m args below meth c s₁ B hml hv
  obtain ⟨rfl, hP, hK⟩ := hv
  have hx := B.exec
  have hb := B.bytes
  have hr := B.returns
  have hts := atoms_spec (ws := wsX4_among) B.pre
  have hown : s.vm.findClass RX4 = some m.cls := findClass_of_methodNamed B.named
  have hlocks := B.notSynchronized
  have hl := lv_entry ([.ref h0, .int p0, .int p1, .int p2]) (n := 5) (Nat.le_of_ble_eq_true rfl)
  rw [lg_entry_eq]
  generalize (lg_sl ([.ref h0, .int p0, .int p1, .int p2]) ++ List.replicate (5 - (lg_sl ([.ref h0, .int p0, .int p1, .int p2])).length) Slot.unset).toArray = ls at hl ⊢
  have hl : lv_has ls 5 [(0, .ref h0), (1, .int p0), (2, .int p1), (3, .int p2)] := hl
  refine lv_aload_n hx hb dX4_among_0 rfl (lv_at hl 0 rfl) ?_
  refine lv_iload_n hx hb dX4_among_1 rfl (lv_at hl 1 rfl) ?_
  have hPc := hP.sub (ws' := [(h0, .inr (3, [.ref h1, .ref h2, .ref h4])), (h1, .inl (kS, 4, .inr (.inr (.inr (.inr (fun _ => none))))))]) [0, 1] rfl
  have hKc := hK.sub (tys' := [(kS, .object "SignForms$Stream")]) [0] rfl
  refine vp_callSi (W.runV (As := [.int p0]) (rest := []) ⟨hx, hb, hml, hown, hts⟩ (kX4_isStream l dC dI h0 h1 h2 h4 kS p0) (cwV 1 hts gX4_among_X4_isStream rfl rfl rfl (by decide +kernel) ⟨Nat.le_of_ble_eq_true rfl, Nat.le_of_ble_eq_true rfl⟩) ⟨fun a U g mk q => by obtain ⟨q0, qP, qK⟩ := q; exact ⟨q0, qP, va_K.moved (u := U) (U := U.calling g mk a) (Vm.Alike.refl U.vm) qK⟩, va_recv hKc hPc (ci := 3) (q0 := 0) rfl rfl, fun U hU hW => ⟨rfl, by rw [hU]; exact hPc, va_K.moved hW.alike hKc⟩⟩ rfl rfl hl.1 rfl (lv_room (Nat.le_of_ble_eq_true rfl)) dX4_among_2 ⟨Nat.le_of_ble_eq_true rfl, Nat.le_of_ble_eq_true rfl⟩) (fun r_1 hwr_1 => ?_)
  rcases hwr_1 with ⟨rfl, hwr_1⟩ | ⟨rfl, hwr_1⟩
  · refine lv_if_ne (tgt := 10) hx hb dX4_among_5 (by decide) (fun _ => ?_) (fun c_2 => False.elim (by revert c_2; decide))
    refine lv_aload_n hx hb dX4_among_10 rfl (lv_at hl 0 rfl) ?_
    refine va_get (D := (dC, dI)) (ci := 3) (v := .ref h1) (C := RX4) (T := TX4) (N := 3) hx hb hts (by decide +kernel) hown hK hP 0 rfl rfl 0 (by decide) (hts (.fieldLink RX4 11 "SignForms" "streams" "[LSignForms$Stream;") (by decide +kernel)) (fun _ h9 => h9) rfl dX4_among_11 ?_
    refine lv_iload_n hx hb dX4_among_14 rfl (lv_at hl 1 rfl) ?_
    refine va_aldq hx hb hK hP 1 0 rfl rfl (vp_in_iff.mpr (by omega)) dX4_among_15 ?_
    refine W.eq (g2 := F0 m 16 ls [.null]) rfl ?_
    refine lv_astoreN (lv' := [(4, .null), (0, .ref h0), (1, .int p0), (2, .int p1), (3, .int p2)]) hx hb dX4_among_16 hl (by decide) rfl (fun ls hl => ?_)
    refine lv_aloadN hx hb dX4_among_18 (lv_at hl 0 rfl) ?_
    refine lv_ifnonnullN hx hb dX4_among_20 ?_
    refine lv_bipush (v := (-2)) hx hb dX4_among_23 (by decide) ?_
    refine lv_goto (tgt := 35) hx hb dX4_among_25 (by decide) ?_
    exact W.iret (v := (-2)) hx hb hr (fun t ht hW => ⟨(-2), rfl, by unfold an_end; first | rw [if_pos (by omega)] | rw [if_neg (by omega)], ht⟩) (fun q h => by cases h) dX4_among_35
  · refine lv_if_ne (tgt := 10) hx hb dX4_among_5 (by decide) (fun c_3 => False.elim (by revert c_3; decide)) (fun _ => ?_)
    refine lv_iconst (v := (-1)) hx hb dX4_among_8 (by decide) ?_
    exact W.iret (v := (-1)) hx hb hr (fun t ht hW => ⟨(-1), rfl, by unfold an_end; first | rw [if_pos (by omega)] | rw [if_neg (by omega)], ht⟩) (fun q h => by cases h) dX4_among_9
end
section
set_option maxHeartbeats 4000000 in
set_option maxRecDepth 100000 in
theorem kX5_isStream (l : Launch) (p0 : Int32) : Met l yX5_isStream wsX5_isStream ({ frames := 0, cells := 0, slots := 0, locals := 0 } : Room) (va_Pc [.int p0] (fun _ => True)) (vp_Si (fun r => (r = 1 ∧ (0 ≤ p0.toInt ∧ p0.toInt < 4)) ∨ (r = 0 ∧ ¬ (0 ≤ p0.toInt ∧ p0.toInt < 4)))) 0 0 (fun _ => False) := by
  refine Met.ofW (cc := cX5_isStream) (maxL := 1) (ret := (some .boolean)) (by decide) rfl ?_
  intro p e s m args below meth c s₁ B hml hv
  obtain ⟨rfl, -⟩ := hv
  have hx := B.exec
  have hb := B.bytes
  have hr := B.returns
  have hts := atoms_spec (ws := wsX5_isStream) B.pre
  have hown : s.vm.findClass RX5 = some m.cls := findClass_of_methodNamed B.named
  have hlocks := B.notSynchronized
  have hl := lv_entry ([.int p0]) (n := 1) (Nat.le_of_ble_eq_true rfl)
  rw [lg_entry_eq]
  generalize (lg_sl ([.int p0]) ++ List.replicate (1 - (lg_sl ([.int p0])).length) Slot.unset).toArray = ls at hl ⊢
  have hl : lv_has ls 1 [(0, .int p0)] := hl
  refine lv_iload_n hx hb dX5_isStream_0 rfl (lv_at hl 0 rfl) ?_
  refine lv_if_lt (tgt := 13) hx hb dX5_isStream_1 (by decide) (fun c_1 => ?_) (fun c_1 => ?_)
  · have zc_1 : p0.toInt < (0 : Int) := zz_lt rfl (by decide) c_1
    refine lv_iconst (v := 0) hx hb dX5_isStream_13 (by decide) ?_
    exact W.zret (v := 0) hx hb hr rfl (fun t ht hW => ⟨0, rfl, Or.inr ⟨rfl, by omega⟩, ht⟩) (fun q h => by cases h) dX5_isStream_14
  · have zc_1 : p0.toInt ≥ (0 : Int) := zz_nlt rfl (by decide) c_1
    refine lv_iload_n hx hb dX5_isStream_4 rfl (lv_at hl 0 rfl) ?_
    refine lv_iconst (v := 4) hx hb dX5_isStream_5 (by decide) ?_
    refine lv_icmp_ge (tgt := 13) hx hb dX5_isStream_6 (by decide) (fun c_2 => ?_) (fun c_2 => ?_)
    · have zc_2 : (4 : Int) ≤ p0.toInt := zz_le (by decide) rfl c_2
      refine lv_iconst (v := 0) hx hb dX5_isStream_13 (by decide) ?_
      exact W.zret (v := 0) hx hb hr rfl (fun t ht hW => ⟨0, rfl, Or.inr ⟨rfl, by omega⟩, ht⟩) (fun q h => by cases h) dX5_isStream_14
    · have zc_2 : (4 : Int) > p0.toInt := zz_nle (by decide) rfl c_2
      refine lv_iconst (v := 1) hx hb dX5_isStream_9 (by decide) ?_
      refine lv_goto (tgt := 14) hx hb dX5_isStream_10 (by decide) ?_
      exact W.zret (v := 1) hx hb hr rfl (fun t ht hW => ⟨1, rfl, Or.inl ⟨rfl, by omega⟩, ht⟩) (fun q h => by cases h) dX5_isStream_14
set_option maxHeartbeats 4000000 in
set_option maxRecDepth 100000 in
theorem kX5_isForm (l : Launch) (p0 : Int32) : Met l yX5_isForm wsX5_isForm ({ frames := 0, cells := 0, slots := 0, locals := 0 } : Room) (va_Pc [.int p0] (fun _ => True)) (vp_Si (fun r => (r = 1 ∧ (0 ≤ p0.toInt ∧ p0.toInt ≤ 5)) ∨ (r = 0 ∧ ¬ (0 ≤ p0.toInt ∧ p0.toInt ≤ 5)))) 0 0 (fun _ => False) := by
  refine Met.ofW (cc := cX5_isForm) (maxL := 1) (ret := (some .boolean)) (by decide) rfl ?_
  intro p e s m args below meth c s₁ B hml hv
  obtain ⟨rfl, -⟩ := hv
  have hx := B.exec
  have hb := B.bytes
  have hr := B.returns
  have hts := atoms_spec (ws := wsX5_isForm) B.pre
  have hown : s.vm.findClass RX5 = some m.cls := findClass_of_methodNamed B.named
  have hlocks := B.notSynchronized
  have hl := lv_entry ([.int p0]) (n := 1) (Nat.le_of_ble_eq_true rfl)
  rw [lg_entry_eq]
  generalize (lg_sl ([.int p0]) ++ List.replicate (1 - (lg_sl ([.int p0])).length) Slot.unset).toArray = ls at hl ⊢
  have hl : lv_has ls 1 [(0, .int p0)] := hl
  refine lv_iload_n hx hb dX5_isForm_0 rfl (lv_at hl 0 rfl) ?_
  refine lv_if_lt (tgt := 14) hx hb dX5_isForm_1 (by decide) (fun c_1 => ?_) (fun c_1 => ?_)
  · have zc_1 : p0.toInt < (0 : Int) := zz_lt rfl (by decide) c_1
    refine lv_iconst (v := 0) hx hb dX5_isForm_14 (by decide) ?_
    exact W.zret (v := 0) hx hb hr rfl (fun t ht hW => ⟨0, rfl, Or.inr ⟨rfl, by omega⟩, ht⟩) (fun q h => by cases h) dX5_isForm_15
  · have zc_1 : p0.toInt ≥ (0 : Int) := zz_nlt rfl (by decide) c_1
    refine lv_iload_n hx hb dX5_isForm_4 rfl (lv_at hl 0 rfl) ?_
    refine lv_bipush (v := 6) hx hb dX5_isForm_5 (by decide) ?_
    refine lv_icmp_ge (tgt := 14) hx hb dX5_isForm_7 (by decide) (fun c_2 => ?_) (fun c_2 => ?_)
    · have zc_2 : (6 : Int) ≤ p0.toInt := zz_le (by decide) rfl c_2
      refine lv_iconst (v := 0) hx hb dX5_isForm_14 (by decide) ?_
      exact W.zret (v := 0) hx hb hr rfl (fun t ht hW => ⟨0, rfl, Or.inr ⟨rfl, by omega⟩, ht⟩) (fun q h => by cases h) dX5_isForm_15
    · have zc_2 : (6 : Int) > p0.toInt := zz_nle (by decide) rfl c_2
      refine lv_iconst (v := 1) hx hb dX5_isForm_10 (by decide) ?_
      refine lv_goto (tgt := 15) hx hb dX5_isForm_11 (by decide) ?_
      exact W.zret (v := 1) hx hb hr rfl (fun t ht hW => ⟨1, rfl, Or.inl ⟨rfl, by omega⟩, ht⟩) (fun q h => by cases h) dX5_isForm_15
set_option maxHeartbeats 4000000 in
set_option maxRecDepth 100000 in
theorem kX5_takes (l : Launch) (dC : Nat → ClassId) (dI : Nat → Nat → Nat) (g0 g1 g2 g3 g4 g5 g6 g7 g8 g9 g10 g11 g12 g13 g14 g15 g16 g17 g18 g19 : Nat) (kZ : ClassId) (p0 : Int32) (hs : 0 ≤ p0.toInt ∧ p0.toInt < 4) : Met l yX5_takes wsX5_takes ({ frames := 0, cells := 0, slots := 0, locals := 0 } : Room) (va_Pc [.ref g0, .int p0] (fun U => va_P (dC, dI) vwCl [(g0, .inr (4, [.ref g1, .ref g2, .ref g3, .ref g4, .ref g5, .ref g6, .ref g7, .ref g8, .ref g9, .ref g10, .ref g11, .ref g12, .ref g13, .ref g14, .ref g15, .ref g16, .ref g17, .ref g18, .int 0, .ref g19, .int 0, .int 0, .int 0])), (g1, .inl (kZ, 4, .inl (fun _ => 0)))] U.heap ∧ va_K (dC, dI) vwCl [(kZ, .boolean)] U)) (vp_Si (fun r => r = 0)) 0 0 (fun _ => False) := by
  refine Met.ofW (cc := cX5_takes) (maxL := 2) (ret := (some .boolean)) (by decide) rfl ?_
  intro p e s m args below meth c s₁ B hml hv
  obtain ⟨rfl, hP, hK⟩ := hv
  have hx := B.exec
  have hb := B.bytes
  have hr := B.returns
  have hts := atoms_spec (ws := wsX5_takes) B.pre
  have hown : s.vm.findClass RX5 = some m.cls := findClass_of_methodNamed B.named
  have hlocks := B.notSynchronized
  have hl := lv_entry ([.ref g0, .int p0]) (n := 2) (Nat.le_of_ble_eq_true rfl)
  rw [lg_entry_eq]
  generalize (lg_sl ([.ref g0, .int p0]) ++ List.replicate (2 - (lg_sl ([.ref g0, .int p0])).length) Slot.unset).toArray = ls at hl ⊢
  have hl : lv_has ls 2 [(0, .ref g0), (1, .int p0)] := hl
  refine lv_aload_n hx hb dX5_takes_0 rfl (lv_at hl 0 rfl) ?_
  refine va_get (D := (dC, dI)) (ci := 4) (v := .ref g1) (C := RX5) (T := TX5) (N := 23) hx hb hts (by decide +kernel) hown hK hP 0 rfl rfl 0 (by decide) (hts (.fieldLink RX5 7 "SignFormsModel" "isOpen" "[Z") (by decide +kernel)) (fun _ h9 => h9) rfl dX5_takes_1 ?_
  refine lv_iload_n hx hb dX5_takes_4 rfl (lv_at hl 1 rfl) ?_
  refine va_zald hx hb hK hP 1 0 rfl rfl (vp_in_iff.mpr (by omega)) dX5_takes_5 ?_
  refine W.eq (g2 := F0 m 6 ls [.int 0]) rfl ?_
  refine lv_if_eq (tgt := 22) hx hb dX5_takes_6 (by decide) (fun _ => ?_) (fun c_1 => False.elim (by revert c_1; decide))
  refine lv_iconst (v := 0) hx hb dX5_takes_22 (by decide) ?_
  exact W.zret (v := 0) hx hb hr rfl (fun t ht hW => ⟨0, rfl, rfl, ht⟩) (fun q h => by cases h) dX5_takes_23
set_option maxHeartbeats 4000000 in
set_option maxRecDepth 100000 in
theorem kX5_isSign (l : Launch) (dC : Nat → ClassId) (dI : Nat → Nat → Nat) (g0 g1 g2 g3 g4 g5 g6 g7 g8 g9 g10 g11 g12 g13 g14 g15 g16 g17 g18 g19 : Nat) (kZ : ClassId) (p0 : Int32) (p1 : Int32) : Met l yX5_isSign wsX5_isSign ({ frames := 1, cells := 0, slots := 0, locals := 20 } : Room) (va_Pc [.ref g0, .int p0, .int p1] (fun U => va_P (dC, dI) vwCl [(g0, .inr (4, [.ref g1, .ref g2, .ref g3, .ref g4, .ref g5, .ref g6, .ref g7, .ref g8, .ref g9, .ref g10, .ref g11, .ref g12, .ref g13, .ref g14, .ref g15, .ref g16, .ref g17, .ref g18, .int 0, .ref g19, .int 0, .int 0, .int 0])), (g1, .inl (kZ, 4, .inl (fun _ => 0)))] U.heap ∧ va_K (dC, dI) vwCl [(kZ, .boolean)] U)) (vp_Si (fun r => r = 0)) 0 0 (fun _ => False) := by
  refine Met.ofW (cc := cX5_isSign) (maxL := 3) (ret := (some .boolean)) (by decide) rfl ?_
  intro p e s m args below meth c s₁ B hml hv
  obtain ⟨rfl, hP, hK⟩ := hv
  have hx := B.exec
  have hb := B.bytes
  have hr := B.returns
  have hts := atoms_spec (ws := wsX5_isSign) B.pre
  have hown : s.vm.findClass RX5 = some m.cls := findClass_of_methodNamed B.named
  have hlocks := B.notSynchronized
  have hl := lv_entry ([.ref g0, .int p0, .int p1]) (n := 3) (Nat.le_of_ble_eq_true rfl)
  rw [lg_entry_eq]
  generalize (lg_sl ([.ref g0, .int p0, .int p1]) ++ List.replicate (3 - (lg_sl ([.ref g0, .int p0, .int p1])).length) Slot.unset).toArray = ls at hl ⊢
  have hl : lv_has ls 3 [(0, .ref g0), (1, .int p0), (2, .int p1)] := hl
  refine lv_iload_n hx hb dX5_isSign_0 rfl (lv_at hl 1 rfl) ?_
  refine vp_callSi (W.runS (As := [.int p0]) (rest := []) ⟨hx, hb, hml, hown, hts⟩ (kX5_isStream l p0) (va_cwS 1 hts gX5_isSign_X5_isStream rfl rfl rfl (by decide +kernel) ⟨Nat.le_of_ble_eq_true rfl, Nat.le_of_ble_eq_true rfl⟩) ⟨fun a U g mk q => q, fun U hU hW => ⟨rfl, trivial⟩⟩ rfl rfl hl.1 rfl (lv_room (Nat.le_of_ble_eq_true rfl)) dX5_isSign_1 ⟨Nat.le_of_ble_eq_true rfl, Nat.le_of_ble_eq_true rfl⟩) (fun r_1 hwr_1 => ?_)
  rcases hwr_1 with ⟨rfl, hwr_1⟩ | ⟨rfl, hwr_1⟩
  · refine lv_if_eq (tgt := 34) hx hb dX5_isSign_4 (by decide) (fun c_2 => False.elim (by revert c_2; decide)) (fun _ => ?_)
    refine lv_aload_n hx hb dX5_isSign_7 rfl (lv_at hl 0 rfl) ?_
    refine va_get (D := (dC, dI)) (ci := 4) (v := .ref g1) (C := RX5) (T := TX5) (N := 23) hx hb hts (by decide +kernel) hown hK hP 0 rfl rfl 0 (by decide) (hts (.fieldLink RX5 7 "SignFormsModel" "isOpen" "[Z") (by decide +kernel)) (fun _ h9 => h9) rfl dX5_isSign_8 ?_
    refine lv_iload_n hx hb dX5_isSign_11 rfl (lv_at hl 1 rfl) ?_
    refine va_zald hx hb hK hP 1 0 rfl rfl (vp_in_iff.mpr (by omega)) dX5_isSign_12 ?_
    refine W.eq (g2 := F0 m 13 ls [.int 0]) rfl ?_
    refine lv_if_eq (tgt := 34) hx hb dX5_isSign_13 (by decide) (fun _ => ?_) (fun c_3 => False.elim (by revert c_3; decide))
    refine lv_iconst (v := 0) hx hb dX5_isSign_34 (by decide) ?_
    exact W.zret (v := 0) hx hb hr rfl (fun t ht hW => ⟨0, rfl, rfl, ht⟩) (fun q h => by cases h) dX5_isSign_35
  · refine lv_if_eq (tgt := 34) hx hb dX5_isSign_4 (by decide) (fun _ => ?_) (fun c_4 => False.elim (by revert c_4; decide))
    refine lv_iconst (v := 0) hx hb dX5_isSign_34 (by decide) ?_
    exact W.zret (v := 0) hx hb hr rfl (fun t ht hW => ⟨0, rfl, rfl, ht⟩) (fun q h => by cases h) dX5_isSign_35
set_option maxHeartbeats 4000000 in
set_option maxRecDepth 100000 in
theorem kX5_put (l : Launch) (dC : Nat → ClassId) (dI : Nat → Nat → Nat) (g0 g1 g2 g3 g4 g5 g6 g7 g8 g9 g10 g11 g12 g13 g14 g15 g16 g17 g18 g19 : Nat) (kZ : ClassId) (p0 : Int32) (w0 : Int64) (p1 : Int32) : Met l yX5_put wsX5_put ({ frames := 1, cells := 0, slots := 0, locals := 21 } : Room) (va_Pc [.ref g0, .int p0, .long w0, .int p1] (fun U => va_P (dC, dI) vwCl [(g0, .inr (4, [.ref g1, .ref g2, .ref g3, .ref g4, .ref g5, .ref g6, .ref g7, .ref g8, .ref g9, .ref g10, .ref g11, .ref g12, .ref g13, .ref g14, .ref g15, .ref g16, .ref g17, .ref g18, .int 0, .ref g19, .int 0, .int 0, .int 0])), (g1, .inl (kZ, 4, .inl (fun _ => 0)))] U.heap ∧ va_K (dC, dI) vwCl [(kZ, .boolean)] U)) (vp_Si (fun r => r = an_put p0 p1)) 0 0 (fun _ => False) := by
  refine Met.ofW (cc := cX5_put) (maxL := 6) (ret := (some .int)) (by decide) rfl ?_
  intro p e s m args below meth c s₁ B hml hv
  obtain ⟨rfl, hP, hK⟩ := hv
  have hx := B.exec
  have hb := B.bytes
  have hr := B.returns
  have hts := atoms_spec (ws := wsX5_put) B.pre
  have hown : s.vm.findClass RX5 = some m.cls := findClass_of_methodNamed B.named
  have hlocks := B.notSynchronized
  have hl := lv_entry ([.ref g0, .int p0, .long w0, .int p1]) (n := 6) (Nat.le_of_ble_eq_true rfl)
  rw [lg_entry_eq]
  generalize (lg_sl ([.ref g0, .int p0, .long w0, .int p1]) ++ List.replicate (6 - (lg_sl ([.ref g0, .int p0, .long w0, .int p1])).length) Slot.unset).toArray = ls at hl ⊢
  have hl : lv_has ls 6 [(0, .ref g0), (1, .int p0), (2, .long w0), (4, .int p1)] := hl
  refine lv_iload_n hx hb dX5_put_0 rfl (lv_at hl 1 rfl) ?_
  refine vp_callSi (W.runS (As := [.int p0]) (rest := []) ⟨hx, hb, hml, hown, hts⟩ (kX5_isStream l p0) (va_cwS 1 hts gX5_put_X5_isStream rfl rfl rfl (by decide +kernel) ⟨Nat.le_of_ble_eq_true rfl, Nat.le_of_ble_eq_true rfl⟩) ⟨fun a U g mk q => q, fun U hU hW => ⟨rfl, trivial⟩⟩ rfl rfl hl.1 rfl (lv_room (Nat.le_of_ble_eq_true rfl)) dX5_put_1 ⟨Nat.le_of_ble_eq_true rfl, Nat.le_of_ble_eq_true rfl⟩) (fun r_1 hwr_1 => ?_)
  rcases hwr_1 with ⟨rfl, hwr_1⟩ | ⟨rfl, hwr_1⟩
  · refine lv_if_eq (tgt := 20) hx hb dX5_put_4 (by decide) (fun c_2 => False.elim (by revert c_2; decide)) (fun _ => ?_)
    refine lv_iload hx hb dX5_put_7 (lv_at hl 3 rfl) ?_
    refine lv_iconst (v := 1) hx hb dX5_put_9 (by decide) ?_
    refine lv_icmp_lt (tgt := 20) hx hb dX5_put_10 (by decide) (fun c_3 => ?_) (fun c_3 => ?_)
    · have zc_3 : p1.toInt < (1 : Int) := zz_lt rfl (by decide) c_3
      refine lv_iconst (v := (-1)) hx hb dX5_put_20 (by decide) ?_
      exact W.iret (v := (-1)) hx hb hr (fun t ht hW => ⟨(-1), rfl, by unfold an_put; first | rw [if_pos (by omega)] | rw [if_neg (by omega)], ht⟩) (fun q h => by cases h) dX5_put_21
    · have zc_3 : p1.toInt ≥ (1 : Int) := zz_nlt rfl (by decide) c_3
      refine lv_iload hx hb dX5_put_13 (lv_at hl 3 rfl) ?_
      refine lv_bipush (v := 8) hx hb dX5_put_15 (by decide) ?_
      refine lv_icmp_le (tgt := 22) hx hb dX5_put_17 (by decide) (fun c_4 => ?_) (fun c_4 => ?_)
      · have zc_4 : p1.toInt ≤ (8 : Int) := zz_le rfl (by decide) c_4
        refine lv_aload_n hx hb dX5_put_22 rfl (lv_at hl 0 rfl) ?_
        refine lv_iload_n hx hb dX5_put_23 rfl (lv_at hl 1 rfl) ?_
        have hPc := hP.sub (ws' := [(g0, .inr (4, [.ref g1, .ref g2, .ref g3, .ref g4, .ref g5, .ref g6, .ref g7, .ref g8, .ref g9, .ref g10, .ref g11, .ref g12, .ref g13, .ref g14, .ref g15, .ref g16, .ref g17, .ref g18, .int 0, .ref g19, .int 0, .int 0, .int 0])), (g1, .inl (kZ, 4, .inl (fun _ => 0)))]) [0, 1] rfl
        have hKc := hK.sub (tys' := [(kZ, .boolean)]) [0] rfl
        refine vp_callSi (W.runV (As := [.int p0]) (rest := []) ⟨hx, hb, hml, hown, hts⟩ (kX5_takes l dC dI g0 g1 g2 g3 g4 g5 g6 g7 g8 g9 g10 g11 g12 g13 g14 g15 g16 g17 g18 g19 kZ p0 (by omega)) (cwV 1 hts gX5_put_X5_takes rfl rfl rfl (by decide +kernel) ⟨Nat.le_of_ble_eq_true rfl, Nat.le_of_ble_eq_true rfl⟩) ⟨fun a U g mk q => by obtain ⟨q0, qP, qK⟩ := q; exact ⟨q0, qP, va_K.moved (u := U) (U := U.calling g mk a) (Vm.Alike.refl U.vm) qK⟩, va_recv hKc hPc (ci := 4) (q0 := 0) rfl rfl, fun U hU hW => ⟨rfl, by rw [hU]; exact hPc, va_K.moved hW.alike hKc⟩⟩ rfl rfl hl.1 rfl (lv_room (Nat.le_of_ble_eq_true rfl)) dX5_put_24 ⟨Nat.le_of_ble_eq_true rfl, Nat.le_of_ble_eq_true rfl⟩) (fun r_5 hwr_5 => ?_)
        subst hwr_5
        refine lv_if_ne (tgt := 33) hx hb dX5_put_27 (by decide) (fun c_6 => False.elim (by revert c_6; decide)) (fun _ => ?_)
        refine lv_bipush (v := (-2)) hx hb dX5_put_30 (by decide) ?_
        exact W.iret (v := (-2)) hx hb hr (fun t ht hW => ⟨(-2), rfl, by unfold an_put; first | rw [if_pos (by omega)] | rw [if_neg (by omega)], ht⟩) (fun q h => by cases h) dX5_put_32
      · have zc_4 : p1.toInt > (8 : Int) := zz_nle rfl (by decide) c_4
        refine lv_iconst (v := (-1)) hx hb dX5_put_20 (by decide) ?_
        exact W.iret (v := (-1)) hx hb hr (fun t ht hW => ⟨(-1), rfl, by unfold an_put; first | rw [if_pos (by omega)] | rw [if_neg (by omega)], ht⟩) (fun q h => by cases h) dX5_put_21
  · refine lv_if_eq (tgt := 20) hx hb dX5_put_4 (by decide) (fun _ => ?_) (fun c_7 => False.elim (by revert c_7; decide))
    refine lv_iconst (v := (-1)) hx hb dX5_put_20 (by decide) ?_
    exact W.iret (v := (-1)) hx hb hr (fun t ht hW => ⟨(-1), rfl, by unfold an_put; first | rw [if_pos (by omega)] | rw [if_neg (by omega)], ht⟩) (fun q h => by cases h) dX5_put_21
set_option maxHeartbeats 4000000 in
set_option maxRecDepth 100000 in
theorem kX5_pour (l : Launch) (dC : Nat → ClassId) (dI : Nat → Nat → Nat) (g0 g1 g2 g3 g4 g5 g6 g7 g8 g9 g10 g11 g12 g13 g14 g15 g16 g17 g18 g19 : Nat) (kZ : ClassId) (p0 : Int32) (p1 : Int32) (p2 : Int32) : Met l yX5_pour wsX5_pour ({ frames := 1, cells := 0, slots := 0, locals := 21 } : Room) (va_Pc [.ref g0, .int p0, .int p1, .int p2] (fun U => va_P (dC, dI) vwCl [(g0, .inr (4, [.ref g1, .ref g2, .ref g3, .ref g4, .ref g5, .ref g6, .ref g7, .ref g8, .ref g9, .ref g10, .ref g11, .ref g12, .ref g13, .ref g14, .ref g15, .ref g16, .ref g17, .ref g18, .int 0, .ref g19, .int 0, .int 0, .int 0])), (g1, .inl (kZ, 4, .inl (fun _ => 0)))] U.heap ∧ va_K (dC, dI) vwCl [(kZ, .boolean)] U)) (vp_Si (fun r => r = an_pour p0 p1 p2)) 0 0 (fun _ => False) := by
  refine Met.ofW (cc := cX5_pour) (maxL := 6) (ret := (some .int)) (by decide) rfl ?_
  intro p e s m args below meth c s₁ B hml hv
  obtain ⟨rfl, hP, hK⟩ := hv
  have hx := B.exec
  have hb := B.bytes
  have hr := B.returns
  have hts := atoms_spec (ws := wsX5_pour) B.pre
  have hown : s.vm.findClass RX5 = some m.cls := findClass_of_methodNamed B.named
  have hlocks := B.notSynchronized
  have hl := lv_entry ([.ref g0, .int p0, .int p1, .int p2]) (n := 6) (Nat.le_of_ble_eq_true rfl)
  rw [lg_entry_eq]
  generalize (lg_sl ([.ref g0, .int p0, .int p1, .int p2]) ++ List.replicate (6 - (lg_sl ([.ref g0, .int p0, .int p1, .int p2])).length) Slot.unset).toArray = ls at hl ⊢
  have hl : lv_has ls 6 [(0, .ref g0), (1, .int p0), (2, .int p1), (3, .int p2)] := hl
  refine lv_iload_n hx hb dX5_pour_0 rfl (lv_at hl 1 rfl) ?_
  refine vp_callSi (W.runS (As := [.int p0]) (rest := []) ⟨hx, hb, hml, hown, hts⟩ (kX5_isStream l p0) (va_cwS 1 hts gX5_pour_X5_isStream rfl rfl rfl (by decide +kernel) ⟨Nat.le_of_ble_eq_true rfl, Nat.le_of_ble_eq_true rfl⟩) ⟨fun a U g mk q => q, fun U hU hW => ⟨rfl, trivial⟩⟩ rfl rfl hl.1 rfl (lv_room (Nat.le_of_ble_eq_true rfl)) dX5_pour_1 ⟨Nat.le_of_ble_eq_true rfl, Nat.le_of_ble_eq_true rfl⟩) (fun r_1 hwr_1 => ?_)
  rcases hwr_1 with ⟨rfl, hwr_1⟩ | ⟨rfl, hwr_1⟩
  · refine lv_if_eq (tgt := 23) hx hb dX5_pour_4 (by decide) (fun c_2 => False.elim (by revert c_2; decide)) (fun _ => ?_)
    refine lv_iload_n hx hb dX5_pour_7 rfl (lv_at hl 2 rfl) ?_
    refine lv_if_lt (tgt := 23) hx hb dX5_pour_8 (by decide) (fun c_3 => ?_) (fun c_3 => ?_)
    · have zc_3 : p1.toInt < (0 : Int) := zz_lt rfl (by decide) c_3
      refine lv_iconst (v := (-1)) hx hb dX5_pour_23 (by decide) ?_
      exact W.iret (v := (-1)) hx hb hr (fun t ht hW => ⟨(-1), rfl, by unfold an_pour; first | rw [if_pos (by omega)] | rw [if_neg (by omega)], ht⟩) (fun q h => by cases h) dX5_pour_24
    · have zc_3 : p1.toInt ≥ (0 : Int) := zz_nlt rfl (by decide) c_3
      refine lv_iload_n hx hb dX5_pour_11 rfl (lv_at hl 2 rfl) ?_
      refine lv_aload_n hx hb dX5_pour_12 rfl (lv_at hl 0 rfl) ?_
      refine va_get (D := (dC, dI)) (ci := 4) (v := .int 0) (C := RX5) (T := TX5) (N := 23) hx hb hts (by decide +kernel) hown hK hP 0 rfl rfl 18 (by decide) (hts (.fieldLink RX5 68 "SignFormsModel" "outSize" "I") (by decide +kernel)) (fun _ h9 => h9) rfl dX5_pour_13 ?_
      refine lv_icmp_gt (tgt := 23) hx hb dX5_pour_16 (by decide) (fun c_4 => ?_) (fun c_4 => ?_)
      · have zc_4 : (0 : Int) < p1.toInt := zz_lt (by decide) rfl c_4
        refine lv_iconst (v := (-1)) hx hb dX5_pour_23 (by decide) ?_
        exact W.iret (v := (-1)) hx hb hr (fun t ht hW => ⟨(-1), rfl, by unfold an_pour; first | rw [if_pos (by omega)] | rw [if_neg (by omega)], ht⟩) (fun q h => by cases h) dX5_pour_24
      · have zc_4 : (0 : Int) ≥ p1.toInt := zz_nlt (by decide) rfl c_4
        refine lv_iload_n hx hb dX5_pour_19 rfl (lv_at hl 3 rfl) ?_
        refine lv_if_ge (tgt := 25) hx hb dX5_pour_20 (by decide) (fun c_5 => ?_) (fun c_5 => ?_)
        · have zc_5 : (0 : Int) ≤ p2.toInt := zz_le (by decide) rfl c_5
          refine lv_aload_n hx hb dX5_pour_25 rfl (lv_at hl 0 rfl) ?_
          refine lv_iload_n hx hb dX5_pour_26 rfl (lv_at hl 1 rfl) ?_
          have hPc := hP.sub (ws' := [(g0, .inr (4, [.ref g1, .ref g2, .ref g3, .ref g4, .ref g5, .ref g6, .ref g7, .ref g8, .ref g9, .ref g10, .ref g11, .ref g12, .ref g13, .ref g14, .ref g15, .ref g16, .ref g17, .ref g18, .int 0, .ref g19, .int 0, .int 0, .int 0])), (g1, .inl (kZ, 4, .inl (fun _ => 0)))]) [0, 1] rfl
          have hKc := hK.sub (tys' := [(kZ, .boolean)]) [0] rfl
          refine vp_callSi (W.runV (As := [.int p0]) (rest := []) ⟨hx, hb, hml, hown, hts⟩ (kX5_takes l dC dI g0 g1 g2 g3 g4 g5 g6 g7 g8 g9 g10 g11 g12 g13 g14 g15 g16 g17 g18 g19 kZ p0 (by omega)) (cwV 1 hts gX5_pour_X5_takes rfl rfl rfl (by decide +kernel) ⟨Nat.le_of_ble_eq_true rfl, Nat.le_of_ble_eq_true rfl⟩) ⟨fun a U g mk q => by obtain ⟨q0, qP, qK⟩ := q; exact ⟨q0, qP, va_K.moved (u := U) (U := U.calling g mk a) (Vm.Alike.refl U.vm) qK⟩, va_recv hKc hPc (ci := 4) (q0 := 0) rfl rfl, fun U hU hW => ⟨rfl, by rw [hU]; exact hPc, va_K.moved hW.alike hKc⟩⟩ rfl rfl hl.1 rfl (lv_room (Nat.le_of_ble_eq_true rfl)) dX5_pour_27 ⟨Nat.le_of_ble_eq_true rfl, Nat.le_of_ble_eq_true rfl⟩) (fun r_6 hwr_6 => ?_)
          subst hwr_6
          refine lv_if_ne (tgt := 36) hx hb dX5_pour_30 (by decide) (fun c_7 => False.elim (by revert c_7; decide)) (fun _ => ?_)
          refine lv_bipush (v := (-2)) hx hb dX5_pour_33 (by decide) ?_
          exact W.iret (v := (-2)) hx hb hr (fun t ht hW => ⟨(-2), rfl, by unfold an_pour; first | rw [if_pos (by omega)] | rw [if_neg (by omega)], ht⟩) (fun q h => by cases h) dX5_pour_35
        · have zc_5 : (0 : Int) > p2.toInt := zz_nle (by decide) rfl c_5
          refine lv_iconst (v := (-1)) hx hb dX5_pour_23 (by decide) ?_
          exact W.iret (v := (-1)) hx hb hr (fun t ht hW => ⟨(-1), rfl, by unfold an_pour; first | rw [if_pos (by omega)] | rw [if_neg (by omega)], ht⟩) (fun q h => by cases h) dX5_pour_24
  · refine lv_if_eq (tgt := 23) hx hb dX5_pour_4 (by decide) (fun _ => ?_) (fun c_8 => False.elim (by revert c_8; decide))
    refine lv_iconst (v := (-1)) hx hb dX5_pour_23 (by decide) ?_
    exact W.iret (v := (-1)) hx hb hr (fun t ht hW => ⟨(-1), rfl, by unfold an_pour; first | rw [if_pos (by omega)] | rw [if_neg (by omega)], ht⟩) (fun q h => by cases h) dX5_pour_24
set_option maxHeartbeats 4000000 in
set_option maxRecDepth 100000 in
theorem kX5_end (l : Launch) (dC : Nat → ClassId) (dI : Nat → Nat → Nat) (g0 g1 g2 g3 g4 g5 g6 g7 g8 g9 g10 g11 g12 g13 g14 g15 g16 g17 g18 g19 : Nat) (kZ : ClassId) (p0 : Int32) : Met l yX5_end wsX5_end ({ frames := 1, cells := 0, slots := 0, locals := 21 } : Room) (va_Pc [.ref g0, .int p0] (fun U => va_P (dC, dI) vwCl [(g0, .inr (4, [.ref g1, .ref g2, .ref g3, .ref g4, .ref g5, .ref g6, .ref g7, .ref g8, .ref g9, .ref g10, .ref g11, .ref g12, .ref g13, .ref g14, .ref g15, .ref g16, .ref g17, .ref g18, .int 0, .ref g19, .int 0, .int 0, .int 0])), (g1, .inl (kZ, 4, .inl (fun _ => 0)))] U.heap ∧ va_K (dC, dI) vwCl [(kZ, .boolean)] U)) (vp_Si (fun r => r = an_end p0)) 0 0 (fun _ => False) := by
  refine Met.ofW (cc := cX5_end) (maxL := 2) (ret := (some .int)) (by decide) rfl ?_
  intro p e s m args below meth c s₁ B hml hv
  obtain ⟨rfl, hP, hK⟩ := hv
  have hx := B.exec
  have hb := B.bytes
  have hr := B.returns
  have hts := atoms_spec (ws := wsX5_end) B.pre
  have hown : s.vm.findClass RX5 = some m.cls := findClass_of_methodNamed B.named
  have hlocks := B.notSynchronized
  have hl := lv_entry ([.ref g0, .int p0]) (n := 2) (Nat.le_of_ble_eq_true rfl)
  rw [lg_entry_eq]
  generalize (lg_sl ([.ref g0, .int p0]) ++ List.replicate (2 - (lg_sl ([.ref g0, .int p0])).length) Slot.unset).toArray = ls at hl ⊢
  have hl : lv_has ls 2 [(0, .ref g0), (1, .int p0)] := hl
  refine lv_iload_n hx hb dX5_end_0 rfl (lv_at hl 1 rfl) ?_
  refine vp_callSi (W.runS (As := [.int p0]) (rest := []) ⟨hx, hb, hml, hown, hts⟩ (kX5_isStream l p0) (va_cwS 1 hts gX5_end_X5_isStream rfl rfl rfl (by decide +kernel) ⟨Nat.le_of_ble_eq_true rfl, Nat.le_of_ble_eq_true rfl⟩) ⟨fun a U g mk q => q, fun U hU hW => ⟨rfl, trivial⟩⟩ rfl rfl hl.1 rfl (lv_room (Nat.le_of_ble_eq_true rfl)) dX5_end_1 ⟨Nat.le_of_ble_eq_true rfl, Nat.le_of_ble_eq_true rfl⟩) (fun r_1 hwr_1 => ?_)
  rcases hwr_1 with ⟨rfl, hwr_1⟩ | ⟨rfl, hwr_1⟩
  · refine lv_if_ne (tgt := 9) hx hb dX5_end_4 (by decide) (fun _ => ?_) (fun c_2 => False.elim (by revert c_2; decide))
    refine lv_aload_n hx hb dX5_end_9 rfl (lv_at hl 0 rfl) ?_
    refine lv_iload_n hx hb dX5_end_10 rfl (lv_at hl 1 rfl) ?_
    have hPc := hP.sub (ws' := [(g0, .inr (4, [.ref g1, .ref g2, .ref g3, .ref g4, .ref g5, .ref g6, .ref g7, .ref g8, .ref g9, .ref g10, .ref g11, .ref g12, .ref g13, .ref g14, .ref g15, .ref g16, .ref g17, .ref g18, .int 0, .ref g19, .int 0, .int 0, .int 0])), (g1, .inl (kZ, 4, .inl (fun _ => 0)))]) [0, 1] rfl
    have hKc := hK.sub (tys' := [(kZ, .boolean)]) [0] rfl
    refine vp_callSi (W.runV (As := [.int p0]) (rest := []) ⟨hx, hb, hml, hown, hts⟩ (kX5_takes l dC dI g0 g1 g2 g3 g4 g5 g6 g7 g8 g9 g10 g11 g12 g13 g14 g15 g16 g17 g18 g19 kZ p0 (by omega)) (cwV 1 hts gX5_end_X5_takes rfl rfl rfl (by decide +kernel) ⟨Nat.le_of_ble_eq_true rfl, Nat.le_of_ble_eq_true rfl⟩) ⟨fun a U g mk q => by obtain ⟨q0, qP, qK⟩ := q; exact ⟨q0, qP, va_K.moved (u := U) (U := U.calling g mk a) (Vm.Alike.refl U.vm) qK⟩, va_recv hKc hPc (ci := 4) (q0 := 0) rfl rfl, fun U hU hW => ⟨rfl, by rw [hU]; exact hPc, va_K.moved hW.alike hKc⟩⟩ rfl rfl hl.1 rfl (lv_room (Nat.le_of_ble_eq_true rfl)) dX5_end_11 ⟨Nat.le_of_ble_eq_true rfl, Nat.le_of_ble_eq_true rfl⟩) (fun r_3 hwr_3 => ?_)
    subst hwr_3
    refine lv_if_ne (tgt := 20) hx hb dX5_end_14 (by decide) (fun c_4 => False.elim (by revert c_4; decide)) (fun _ => ?_)
    refine lv_bipush (v := (-2)) hx hb dX5_end_17 (by decide) ?_
    exact W.iret (v := (-2)) hx hb hr (fun t ht hW => ⟨(-2), rfl, by unfold an_end; first | rw [if_pos (by omega)] | rw [if_neg (by omega)], ht⟩) (fun q h => by cases h) dX5_end_19
  · refine lv_if_ne (tgt := 9) hx hb dX5_end_4 (by decide) (fun c_5 => False.elim (by revert c_5; decide)) (fun _ => ?_)
    refine lv_iconst (v := (-1)) hx hb dX5_end_7 (by decide) ?_
    exact W.iret (v := (-1)) hx hb hr (fun t ht hW => ⟨(-1), rfl, by unfold an_end; first | rw [if_pos (by omega)] | rw [if_neg (by omega)], ht⟩) (fun q h => by cases h) dX5_end_8
set_option maxHeartbeats 4000000 in
set_option maxRecDepth 100000 in
theorem kX5_about (l : Launch) (dC : Nat → ClassId) (dI : Nat → Nat → Nat) (g0 g1 g2 g3 g4 g5 g6 g7 g8 g9 g10 g11 g12 g13 g14 g15 g16 g17 g18 g19 : Nat) (kZ : ClassId) (p0 : Int32) (p1 : Int32) : Met l yX5_about wsX5_about ({ frames := 1, cells := 0, slots := 0, locals := 20 } : Room) (va_Pc [.ref g0, .int p0, .int p1] (fun U => va_P (dC, dI) vwCl [(g0, .inr (4, [.ref g1, .ref g2, .ref g3, .ref g4, .ref g5, .ref g6, .ref g7, .ref g8, .ref g9, .ref g10, .ref g11, .ref g12, .ref g13, .ref g14, .ref g15, .ref g16, .ref g17, .ref g18, .int 0, .ref g19, .int 0, .int 0, .int 0])), (g1, .inl (kZ, 4, .inl (fun _ => 0)))] U.heap ∧ va_K (dC, dI) vwCl [(kZ, .boolean)] U)) (vp_Si (fun r => r = an_about p0 p1)) 0 0 (fun _ => False) := by
  refine Met.ofW (cc := cX5_about) (maxL := 3) (ret := (some .int)) (by decide) rfl ?_
  intro p e s m args below meth c s₁ B hml hv
  obtain ⟨rfl, hP, hK⟩ := hv
  have hx := B.exec
  have hb := B.bytes
  have hr := B.returns
  have hts := atoms_spec (ws := wsX5_about) B.pre
  have hown : s.vm.findClass RX5 = some m.cls := findClass_of_methodNamed B.named
  have hlocks := B.notSynchronized
  have hl := lv_entry ([.ref g0, .int p0, .int p1]) (n := 3) (Nat.le_of_ble_eq_true rfl)
  rw [lg_entry_eq]
  generalize (lg_sl ([.ref g0, .int p0, .int p1]) ++ List.replicate (3 - (lg_sl ([.ref g0, .int p0, .int p1])).length) Slot.unset).toArray = ls at hl ⊢
  have hl : lv_has ls 3 [(0, .ref g0), (1, .int p0), (2, .int p1)] := hl
  refine lv_iload_n hx hb dX5_about_0 rfl (lv_at hl 1 rfl) ?_
  refine vp_callSi (W.runS (As := [.int p0]) (rest := []) ⟨hx, hb, hml, hown, hts⟩ (kX5_isStream l p0) (va_cwS 1 hts gX5_about_X5_isStream rfl rfl rfl (by decide +kernel) ⟨Nat.le_of_ble_eq_true rfl, Nat.le_of_ble_eq_true rfl⟩) ⟨fun a U g mk q => q, fun U hU hW => ⟨rfl, trivial⟩⟩ rfl rfl hl.1 rfl (lv_room (Nat.le_of_ble_eq_true rfl)) dX5_about_1 ⟨Nat.le_of_ble_eq_true rfl, Nat.le_of_ble_eq_true rfl⟩) (fun r_1 hwr_1 => ?_)
  rcases hwr_1 with ⟨rfl, hwr_1⟩ | ⟨rfl, hwr_1⟩
  · refine lv_if_eq (tgt := 17) hx hb dX5_about_4 (by decide) (fun c_2 => False.elim (by revert c_2; decide)) (fun _ => ?_)
    refine lv_iload_n hx hb dX5_about_7 rfl (lv_at hl 2 rfl) ?_
    refine lv_if_lt (tgt := 17) hx hb dX5_about_8 (by decide) (fun c_3 => ?_) (fun c_3 => ?_)
    · have zc_3 : p1.toInt < (0 : Int) := zz_lt rfl (by decide) c_3
      refine lv_iconst (v := (-1)) hx hb dX5_about_17 (by decide) ?_
      exact W.iret (v := (-1)) hx hb hr (fun t ht hW => ⟨(-1), rfl, by unfold an_about; first | rw [if_pos (by omega)] | rw [if_neg (by omega)], ht⟩) (fun q h => by cases h) dX5_about_18
    · have zc_3 : p1.toInt ≥ (0 : Int) := zz_nlt rfl (by decide) c_3
      refine lv_iload_n hx hb dX5_about_11 rfl (lv_at hl 2 rfl) ?_
      refine lv_bipush (v := 8) hx hb dX5_about_12 (by decide) ?_
      refine lv_icmp_le (tgt := 19) hx hb dX5_about_14 (by decide) (fun c_4 => ?_) (fun c_4 => ?_)
      · have zc_4 : p1.toInt ≤ (8 : Int) := zz_le rfl (by decide) c_4
        refine lv_aload_n hx hb dX5_about_19 rfl (lv_at hl 0 rfl) ?_
        refine va_get (D := (dC, dI)) (ci := 4) (v := .ref g1) (C := RX5) (T := TX5) (N := 23) hx hb hts (by decide +kernel) hown hK hP 0 rfl rfl 0 (by decide) (hts (.fieldLink RX5 7 "SignFormsModel" "isOpen" "[Z") (by decide +kernel)) (fun _ h9 => h9) rfl dX5_about_20 ?_
        refine lv_iload_n hx hb dX5_about_23 rfl (lv_at hl 1 rfl) ?_
        refine va_zald hx hb hK hP 1 0 rfl rfl (vp_in_iff.mpr (by omega)) dX5_about_24 ?_
        refine W.eq (g2 := F0 m 25 ls [.int 0]) rfl ?_
        refine lv_if_ne (tgt := 31) hx hb dX5_about_25 (by decide) (fun c_5 => False.elim (by revert c_5; decide)) (fun _ => ?_)
        refine lv_bipush (v := (-2)) hx hb dX5_about_28 (by decide) ?_
        exact W.iret (v := (-2)) hx hb hr (fun t ht hW => ⟨(-2), rfl, by unfold an_about; first | rw [if_pos (by omega)] | rw [if_neg (by omega)], ht⟩) (fun q h => by cases h) dX5_about_30
      · have zc_4 : p1.toInt > (8 : Int) := zz_nle rfl (by decide) c_4
        refine lv_iconst (v := (-1)) hx hb dX5_about_17 (by decide) ?_
        exact W.iret (v := (-1)) hx hb hr (fun t ht hW => ⟨(-1), rfl, by unfold an_about; first | rw [if_pos (by omega)] | rw [if_neg (by omega)], ht⟩) (fun q h => by cases h) dX5_about_18
  · refine lv_if_eq (tgt := 17) hx hb dX5_about_4 (by decide) (fun _ => ?_) (fun c_6 => False.elim (by revert c_6; decide))
    refine lv_iconst (v := (-1)) hx hb dX5_about_17 (by decide) ?_
    exact W.iret (v := (-1)) hx hb hr (fun t ht hW => ⟨(-1), rfl, by unfold an_about; first | rw [if_pos (by omega)] | rw [if_neg (by omega)], ht⟩) (fun q h => by cases h) dX5_about_18
set_option maxHeartbeats 4000000 in
set_option maxRecDepth 100000 in
theorem kX5_sign (l : Launch) (dC : Nat → ClassId) (dI : Nat → Nat → Nat) (g0 g1 g2 g3 g4 g5 g6 g7 g8 g9 g10 g11 g12 g13 g14 g15 g16 g17 g18 g19 : Nat) (kZ : ClassId) (p0 : Int32) (p1 : Int32) : Met l yX5_sign wsX5_sign ({ frames := 2, cells := 0, slots := 0, locals := 42 } : Room) (va_Pc [.ref g0, .int p0, .int p1] (fun U => va_P (dC, dI) vwCl [(g0, .inr (4, [.ref g1, .ref g2, .ref g3, .ref g4, .ref g5, .ref g6, .ref g7, .ref g8, .ref g9, .ref g10, .ref g11, .ref g12, .ref g13, .ref g14, .ref g15, .ref g16, .ref g17, .ref g18, .int 0, .ref g19, .int 0, .int 0, .int 0])), (g1, .inl (kZ, 4, .inl (fun _ => 0)))] U.heap ∧ va_K (dC, dI) vwCl [(kZ, .boolean)] U)) (vp_Si (fun r => r = -1)) 0 0 (fun _ => False) := by
  refine Met.ofW (cc := cX5_sign) (maxL := 3) (ret := (some .int)) (by decide) rfl ?_
  intro p e s m args below meth c s₁ B hml hv
  obtain ⟨rfl, hP, hK⟩ := hv
  have hx := B.exec
  have hb := B.bytes
  have hr := B.returns
  have hts := atoms_spec (ws := wsX5_sign) B.pre
  have hown : s.vm.findClass RX5 = some m.cls := findClass_of_methodNamed B.named
  have hlocks := B.notSynchronized
  have hl := lv_entry ([.ref g0, .int p0, .int p1]) (n := 3) (Nat.le_of_ble_eq_true rfl)
  rw [lg_entry_eq]
  generalize (lg_sl ([.ref g0, .int p0, .int p1]) ++ List.replicate (3 - (lg_sl ([.ref g0, .int p0, .int p1])).length) Slot.unset).toArray = ls at hl ⊢
  have hl : lv_has ls 3 [(0, .ref g0), (1, .int p0), (2, .int p1)] := hl
  refine lv_aload_n hx hb dX5_sign_0 rfl (lv_at hl 0 rfl) ?_
  refine lv_iload_n hx hb dX5_sign_1 rfl (lv_at hl 1 rfl) ?_
  refine lv_iload_n hx hb dX5_sign_2 rfl (lv_at hl 2 rfl) ?_
  have hPc := hP.sub (ws' := [(g0, .inr (4, [.ref g1, .ref g2, .ref g3, .ref g4, .ref g5, .ref g6, .ref g7, .ref g8, .ref g9, .ref g10, .ref g11, .ref g12, .ref g13, .ref g14, .ref g15, .ref g16, .ref g17, .ref g18, .int 0, .ref g19, .int 0, .int 0, .int 0])), (g1, .inl (kZ, 4, .inl (fun _ => 0)))]) [0, 1] rfl
  have hKc := hK.sub (tys' := [(kZ, .boolean)]) [0] rfl
  refine vp_callSi (W.runV (As := [.int p0, .int p1]) (rest := []) ⟨hx, hb, hml, hown, hts⟩ (kX5_isSign l dC dI g0 g1 g2 g3 g4 g5 g6 g7 g8 g9 g10 g11 g12 g13 g14 g15 g16 g17 g18 g19 kZ p0 p1) (cwV 2 hts gX5_sign_X5_isSign rfl rfl rfl (by decide +kernel) ⟨Nat.le_of_ble_eq_true rfl, Nat.le_of_ble_eq_true rfl⟩) ⟨fun a U g mk q => by obtain ⟨q0, qP, qK⟩ := q; exact ⟨q0, qP, va_K.moved (u := U) (U := U.calling g mk a) (Vm.Alike.refl U.vm) qK⟩, va_recv hKc hPc (ci := 4) (q0 := 0) rfl rfl, fun U hU hW => ⟨rfl, by rw [hU]; exact hPc, va_K.moved hW.alike hKc⟩⟩ rfl rfl hl.1 rfl (lv_room (Nat.le_of_ble_eq_true rfl)) dX5_sign_3 ⟨Nat.le_of_ble_eq_true rfl, Nat.le_of_ble_eq_true rfl⟩) (fun r_1 hwr_1 => ?_)
  subst hwr_1
  refine lv_if_eq (tgt := 24) hx hb dX5_sign_6 (by decide) (fun _ => ?_) (fun c_2 => False.elim (by revert c_2; decide))
  refine lv_iconst (v := (-1)) hx hb dX5_sign_24 (by decide) ?_
  exact W.iret (v := (-1)) hx hb hr (fun t ht hW => ⟨(-1), rfl, rfl, ht⟩) (fun q h => by cases h) dX5_sign_25
set_option maxHeartbeats 4000000 in
set_option maxRecDepth 100000 in
theorem kX5_placed (l : Launch) (dC : Nat → ClassId) (dI : Nat → Nat → Nat) (g0 g1 g2 g3 g4 g5 g6 g7 g8 g9 g10 g11 g12 g13 g14 g15 g16 g17 g18 g19 : Nat) (kZ : ClassId) (p0 : Int32) (p1 : Int32) (p2 : Int32) : Met l yX5_placed wsX5_placed ({ frames := 2, cells := 0, slots := 0, locals := 42 } : Room) (va_Pc [.ref g0, .int p0, .int p1, .int p2] (fun U => va_P (dC, dI) vwCl [(g0, .inr (4, [.ref g1, .ref g2, .ref g3, .ref g4, .ref g5, .ref g6, .ref g7, .ref g8, .ref g9, .ref g10, .ref g11, .ref g12, .ref g13, .ref g14, .ref g15, .ref g16, .ref g17, .ref g18, .int 0, .ref g19, .int 0, .int 0, .int 0])), (g1, .inl (kZ, 4, .inl (fun _ => 0)))] U.heap ∧ va_K (dC, dI) vwCl [(kZ, .boolean)] U)) (vp_Si (fun r => r = -1)) 0 0 (fun _ => False) := by
  refine Met.ofW (cc := cX5_placed) (maxL := 5) (ret := (some .int)) (by decide) rfl ?_
  intro p e s m args below meth c s₁ B hml hv
  obtain ⟨rfl, hP, hK⟩ := hv
  have hx := B.exec
  have hb := B.bytes
  have hr := B.returns
  have hts := atoms_spec (ws := wsX5_placed) B.pre
  have hown : s.vm.findClass RX5 = some m.cls := findClass_of_methodNamed B.named
  have hlocks := B.notSynchronized
  have hl := lv_entry ([.ref g0, .int p0, .int p1, .int p2]) (n := 5) (Nat.le_of_ble_eq_true rfl)
  rw [lg_entry_eq]
  generalize (lg_sl ([.ref g0, .int p0, .int p1, .int p2]) ++ List.replicate (5 - (lg_sl ([.ref g0, .int p0, .int p1, .int p2])).length) Slot.unset).toArray = ls at hl ⊢
  have hl : lv_has ls 5 [(0, .ref g0), (1, .int p0), (2, .int p1), (3, .int p2)] := hl
  refine lv_aload_n hx hb dX5_placed_0 rfl (lv_at hl 0 rfl) ?_
  refine lv_iload_n hx hb dX5_placed_1 rfl (lv_at hl 1 rfl) ?_
  refine lv_iload_n hx hb dX5_placed_2 rfl (lv_at hl 2 rfl) ?_
  have hPc := hP.sub (ws' := [(g0, .inr (4, [.ref g1, .ref g2, .ref g3, .ref g4, .ref g5, .ref g6, .ref g7, .ref g8, .ref g9, .ref g10, .ref g11, .ref g12, .ref g13, .ref g14, .ref g15, .ref g16, .ref g17, .ref g18, .int 0, .ref g19, .int 0, .int 0, .int 0])), (g1, .inl (kZ, 4, .inl (fun _ => 0)))]) [0, 1] rfl
  have hKc := hK.sub (tys' := [(kZ, .boolean)]) [0] rfl
  refine vp_callSi (W.runV (As := [.int p0, .int p1]) (rest := []) ⟨hx, hb, hml, hown, hts⟩ (kX5_isSign l dC dI g0 g1 g2 g3 g4 g5 g6 g7 g8 g9 g10 g11 g12 g13 g14 g15 g16 g17 g18 g19 kZ p0 p1) (cwV 2 hts gX5_placed_X5_isSign rfl rfl rfl (by decide +kernel) ⟨Nat.le_of_ble_eq_true rfl, Nat.le_of_ble_eq_true rfl⟩) ⟨fun a U g mk q => by obtain ⟨q0, qP, qK⟩ := q; exact ⟨q0, qP, va_K.moved (u := U) (U := U.calling g mk a) (Vm.Alike.refl U.vm) qK⟩, va_recv hKc hPc (ci := 4) (q0 := 0) rfl rfl, fun U hU hW => ⟨rfl, by rw [hU]; exact hPc, va_K.moved hW.alike hKc⟩⟩ rfl rfl hl.1 rfl (lv_room (Nat.le_of_ble_eq_true rfl)) dX5_placed_3 ⟨Nat.le_of_ble_eq_true rfl, Nat.le_of_ble_eq_true rfl⟩) (fun r_1 hwr_1 => ?_)
  subst hwr_1
  refine lv_if_eq (tgt := 18) hx hb dX5_placed_6 (by decide) (fun _ => ?_) (fun c_2 => False.elim (by revert c_2; decide))
  refine lv_iconst (v := (-1)) hx hb dX5_placed_18 (by decide) ?_
  exact W.iret (v := (-1)) hx hb hr (fun t ht hW => ⟨(-1), rfl, rfl, ht⟩) (fun q h => by cases h) dX5_placed_19
set_option maxHeartbeats 4000000 in
set_option maxRecDepth 100000 in
theorem kX5_at (l : Launch) (dC : Nat → ClassId) (dI : Nat → Nat → Nat) (g0 g1 g2 g3 g4 g5 g6 g7 g8 g9 g10 g11 g12 g13 g14 g15 g16 g17 g18 g19 : Nat) (kZ : ClassId) (p0 : Int32) (p1 : Int32) : Met l yX5_at wsX5_at ({ frames := 1, cells := 0, slots := 0, locals := 20 } : Room) (va_Pc [.ref g0, .int p0, .int p1] (fun U => va_P (dC, dI) vwCl [(g0, .inr (4, [.ref g1, .ref g2, .ref g3, .ref g4, .ref g5, .ref g6, .ref g7, .ref g8, .ref g9, .ref g10, .ref g11, .ref g12, .ref g13, .ref g14, .ref g15, .ref g16, .ref g17, .ref g18, .int 0, .ref g19, .int 0, .int 0, .int 0])), (g1, .inl (kZ, 4, .inl (fun _ => 0)))] U.heap ∧ va_K (dC, dI) vwCl [(kZ, .boolean)] U)) (vp_Si (fun r => r = -1)) 0 0 (fun _ => False) := by
  refine Met.ofW (cc := cX5_at) (maxL := 5) (ret := (some .int)) (by decide) rfl ?_
  intro p e s m args below meth c s₁ B hml hv
  obtain ⟨rfl, hP, hK⟩ := hv
  have hx := B.exec
  have hb := B.bytes
  have hr := B.returns
  have hts := atoms_spec (ws := wsX5_at) B.pre
  have hown : s.vm.findClass RX5 = some m.cls := findClass_of_methodNamed B.named
  have hlocks := B.notSynchronized
  have hl := lv_entry ([.ref g0, .int p0, .int p1]) (n := 5) (Nat.le_of_ble_eq_true rfl)
  rw [lg_entry_eq]
  generalize (lg_sl ([.ref g0, .int p0, .int p1]) ++ List.replicate (5 - (lg_sl ([.ref g0, .int p0, .int p1])).length) Slot.unset).toArray = ls at hl ⊢
  have hl : lv_has ls 5 [(0, .ref g0), (1, .int p0), (2, .int p1)] := hl
  refine lv_iload_n hx hb dX5_at_0 rfl (lv_at hl 1 rfl) ?_
  refine vp_callSi (W.runS (As := [.int p0]) (rest := []) ⟨hx, hb, hml, hown, hts⟩ (kX5_isStream l p0) (va_cwS 1 hts gX5_at_X5_isStream rfl rfl rfl (by decide +kernel) ⟨Nat.le_of_ble_eq_true rfl, Nat.le_of_ble_eq_true rfl⟩) ⟨fun a U g mk q => q, fun U hU hW => ⟨rfl, trivial⟩⟩ rfl rfl hl.1 rfl (lv_room (Nat.le_of_ble_eq_true rfl)) dX5_at_1 ⟨Nat.le_of_ble_eq_true rfl, Nat.le_of_ble_eq_true rfl⟩) (fun r_1 hwr_1 => ?_)
  rcases hwr_1 with ⟨rfl, hwr_1⟩ | ⟨rfl, hwr_1⟩
  · refine lv_if_eq (tgt := 16) hx hb dX5_at_4 (by decide) (fun c_2 => False.elim (by revert c_2; decide)) (fun _ => ?_)
    refine lv_aload_n hx hb dX5_at_7 rfl (lv_at hl 0 rfl) ?_
    refine va_get (D := (dC, dI)) (ci := 4) (v := .ref g1) (C := RX5) (T := TX5) (N := 23) hx hb hts (by decide +kernel) hown hK hP 0 rfl rfl 0 (by decide) (hts (.fieldLink RX5 7 "SignFormsModel" "isOpen" "[Z") (by decide +kernel)) (fun _ h9 => h9) rfl dX5_at_8 ?_
    refine lv_iload_n hx hb dX5_at_11 rfl (lv_at hl 1 rfl) ?_
    refine va_zald hx hb hK hP 1 0 rfl rfl (vp_in_iff.mpr (by omega)) dX5_at_12 ?_
    refine W.eq (g2 := F0 m 13 ls [.int 0]) rfl ?_
    refine lv_if_ne (tgt := 18) hx hb dX5_at_13 (by decide) (fun c_3 => False.elim (by revert c_3; decide)) (fun _ => ?_)
    refine lv_iconst (v := (-1)) hx hb dX5_at_16 (by decide) ?_
    exact W.iret (v := (-1)) hx hb hr (fun t ht hW => ⟨(-1), rfl, rfl, ht⟩) (fun q h => by cases h) dX5_at_17
  · refine lv_if_eq (tgt := 16) hx hb dX5_at_4 (by decide) (fun _ => ?_) (fun c_4 => False.elim (by revert c_4; decide))
    refine lv_iconst (v := (-1)) hx hb dX5_at_16 (by decide) ?_
    exact W.iret (v := (-1)) hx hb hr (fun t ht hW => ⟨(-1), rfl, rfl, ht⟩) (fun q h => by cases h) dX5_at_17
set_option maxHeartbeats 4000000 in
set_option maxRecDepth 100000 in
theorem kX5_write (l : Launch) (dC : Nat → ClassId) (dI : Nat → Nat → Nat) (g0 g1 g2 g3 g4 g5 g6 g7 g8 g9 g10 g11 g12 g13 g14 g15 g16 g17 g18 g19 : Nat) (kZ : ClassId) (p0 : Int32) (p1 : Int32) (p2 : Int32) : Met l yX5_write wsX5_write ({ frames := 1, cells := 0, slots := 0, locals := 20 } : Room) (va_Pc [.ref g0, .int p0, .int p1, .int p2] (fun U => va_P (dC, dI) vwCl [(g0, .inr (4, [.ref g1, .ref g2, .ref g3, .ref g4, .ref g5, .ref g6, .ref g7, .ref g8, .ref g9, .ref g10, .ref g11, .ref g12, .ref g13, .ref g14, .ref g15, .ref g16, .ref g17, .ref g18, .int 0, .ref g19, .int 0, .int 0, .int 0])), (g1, .inl (kZ, 4, .inl (fun _ => 0)))] U.heap ∧ va_K (dC, dI) vwCl [(kZ, .boolean)] U)) (vp_Si (fun r => r = an_write p0 p1)) 0 0 (fun _ => False) := by
  refine Met.ofW (cc := cX5_write) (maxL := 6) (ret := (some .int)) (by decide) rfl ?_
  intro p e s m args below meth c s₁ B hml hv
  obtain ⟨rfl, hP, hK⟩ := hv
  have hx := B.exec
  have hb := B.bytes
  have hr := B.returns
  have hts := atoms_spec (ws := wsX5_write) B.pre
  have hown : s.vm.findClass RX5 = some m.cls := findClass_of_methodNamed B.named
  have hlocks := B.notSynchronized
  have hl := lv_entry ([.ref g0, .int p0, .int p1, .int p2]) (n := 6) (Nat.le_of_ble_eq_true rfl)
  rw [lg_entry_eq]
  generalize (lg_sl ([.ref g0, .int p0, .int p1, .int p2]) ++ List.replicate (6 - (lg_sl ([.ref g0, .int p0, .int p1, .int p2])).length) Slot.unset).toArray = ls at hl ⊢
  have hl : lv_has ls 6 [(0, .ref g0), (1, .int p0), (2, .int p1), (3, .int p2)] := hl
  refine lv_iload_n hx hb dX5_write_0 rfl (lv_at hl 1 rfl) ?_
  refine vp_callSi (W.runS (As := [.int p0]) (rest := []) ⟨hx, hb, hml, hown, hts⟩ (kX5_isStream l p0) (va_cwS 1 hts gX5_write_X5_isStream rfl rfl rfl (by decide +kernel) ⟨Nat.le_of_ble_eq_true rfl, Nat.le_of_ble_eq_true rfl⟩) ⟨fun a U g mk q => q, fun U hU hW => ⟨rfl, trivial⟩⟩ rfl rfl hl.1 rfl (lv_room (Nat.le_of_ble_eq_true rfl)) dX5_write_1 ⟨Nat.le_of_ble_eq_true rfl, Nat.le_of_ble_eq_true rfl⟩) (fun r_1 hwr_1 => ?_)
  rcases hwr_1 with ⟨rfl, hwr_1⟩ | ⟨rfl, hwr_1⟩
  · refine lv_if_eq (tgt := 14) hx hb dX5_write_4 (by decide) (fun c_2 => False.elim (by revert c_2; decide)) (fun _ => ?_)
    refine lv_iload_n hx hb dX5_write_7 rfl (lv_at hl 2 rfl) ?_
    refine vp_callSi (W.runS (As := [.int p1]) (rest := []) ⟨hx, hb, hml, hown, hts⟩ (kX5_isForm l p1) (va_cwS 1 hts gX5_write_X5_isForm rfl rfl rfl (by decide +kernel) ⟨Nat.le_of_ble_eq_true rfl, Nat.le_of_ble_eq_true rfl⟩) ⟨fun a U g mk q => q, fun U hU hW => ⟨rfl, trivial⟩⟩ rfl rfl hl.1 rfl (lv_room (Nat.le_of_ble_eq_true rfl)) dX5_write_8 ⟨Nat.le_of_ble_eq_true rfl, Nat.le_of_ble_eq_true rfl⟩) (fun r_3 hwr_3 => ?_)
    rcases hwr_3 with ⟨rfl, hwr_3⟩ | ⟨rfl, hwr_3⟩
    · refine lv_if_ne (tgt := 16) hx hb dX5_write_11 (by decide) (fun _ => ?_) (fun c_4 => False.elim (by revert c_4; decide))
      refine lv_aload_n hx hb dX5_write_16 rfl (lv_at hl 0 rfl) ?_
      refine va_get (D := (dC, dI)) (ci := 4) (v := .ref g1) (C := RX5) (T := TX5) (N := 23) hx hb hts (by decide +kernel) hown hK hP 0 rfl rfl 0 (by decide) (hts (.fieldLink RX5 7 "SignFormsModel" "isOpen" "[Z") (by decide +kernel)) (fun _ h9 => h9) rfl dX5_write_17 ?_
      refine lv_iload_n hx hb dX5_write_20 rfl (lv_at hl 1 rfl) ?_
      refine va_zald hx hb hK hP 1 0 rfl rfl (vp_in_iff.mpr (by omega)) dX5_write_21 ?_
      refine W.eq (g2 := F0 m 22 ls [.int 0]) rfl ?_
      refine lv_if_ne (tgt := 28) hx hb dX5_write_22 (by decide) (fun c_5 => False.elim (by revert c_5; decide)) (fun _ => ?_)
      refine lv_bipush (v := (-2)) hx hb dX5_write_25 (by decide) ?_
      exact W.iret (v := (-2)) hx hb hr (fun t ht hW => ⟨(-2), rfl, by unfold an_write; first | rw [if_pos (by omega)] | rw [if_neg (by omega)], ht⟩) (fun q h => by cases h) dX5_write_27
    · refine lv_if_ne (tgt := 16) hx hb dX5_write_11 (by decide) (fun c_6 => False.elim (by revert c_6; decide)) (fun _ => ?_)
      refine lv_iconst (v := (-1)) hx hb dX5_write_14 (by decide) ?_
      exact W.iret (v := (-1)) hx hb hr (fun t ht hW => ⟨(-1), rfl, by unfold an_write; first | rw [if_pos (by omega)] | rw [if_neg (by omega)], ht⟩) (fun q h => by cases h) dX5_write_15
  · refine lv_if_eq (tgt := 14) hx hb dX5_write_4 (by decide) (fun _ => ?_) (fun c_7 => False.elim (by revert c_7; decide))
    refine lv_iconst (v := (-1)) hx hb dX5_write_14 (by decide) ?_
    exact W.iret (v := (-1)) hx hb hr (fun t ht hW => ⟨(-1), rfl, by unfold an_write; first | rw [if_pos (by omega)] | rw [if_neg (by omega)], ht⟩) (fun q h => by cases h) dX5_write_15
set_option maxHeartbeats 4000000 in
set_option maxRecDepth 100000 in
theorem kX5_size (l : Launch) (dC : Nat → ClassId) (dI : Nat → Nat → Nat) (g0 g1 g2 g3 g4 g5 g6 g7 g8 g9 g10 g11 g12 g13 g14 g15 g16 g17 g18 g19 : Nat) (kZ : ClassId) (p0 : Int32) (p1 : Int32) (p2 : Int32) (p3 : Int32) : Met l yX5_size wsX5_size ({ frames := 1, cells := 0, slots := 0, locals := 20 } : Room) (va_Pc [.ref g0, .int p0, .int p1, .int p2, .int p3] (fun U => va_P (dC, dI) vwCl [(g0, .inr (4, [.ref g1, .ref g2, .ref g3, .ref g4, .ref g5, .ref g6, .ref g7, .ref g8, .ref g9, .ref g10, .ref g11, .ref g12, .ref g13, .ref g14, .ref g15, .ref g16, .ref g17, .ref g18, .int 0, .ref g19, .int 0, .int 0, .int 0])), (g1, .inl (kZ, 4, .inl (fun _ => 0)))] U.heap ∧ va_K (dC, dI) vwCl [(kZ, .boolean)] U)) (vp_Si (fun r => r = an_write p0 p1)) 0 0 (fun _ => False) := by
  refine Met.ofW (cc := cX5_size) (maxL := 7) (ret := (some .int)) (by decide) rfl ?_
  intro p e s m args below meth c s₁ B hml hv
  obtain ⟨rfl, hP, hK⟩ := hv
  have hx := B.exec
  have hb := B.bytes
  have hr := B.returns
  have hts := atoms_spec (ws := wsX5_size) B.pre
  have hown : s.vm.findClass RX5 = some m.cls := findClass_of_methodNamed B.named
  have hlocks := B.notSynchronized
  have hl := lv_entry ([.ref g0, .int p0, .int p1, .int p2, .int p3]) (n := 7) (Nat.le_of_ble_eq_true rfl)
  rw [lg_entry_eq]
  generalize (lg_sl ([.ref g0, .int p0, .int p1, .int p2, .int p3]) ++ List.replicate (7 - (lg_sl ([.ref g0, .int p0, .int p1, .int p2, .int p3])).length) Slot.unset).toArray = ls at hl ⊢
  have hl : lv_has ls 7 [(0, .ref g0), (1, .int p0), (2, .int p1), (3, .int p2), (4, .int p3)] := hl
  refine lv_iload_n hx hb dX5_size_0 rfl (lv_at hl 1 rfl) ?_
  refine vp_callSi (W.runS (As := [.int p0]) (rest := []) ⟨hx, hb, hml, hown, hts⟩ (kX5_isStream l p0) (va_cwS 1 hts gX5_size_X5_isStream rfl rfl rfl (by decide +kernel) ⟨Nat.le_of_ble_eq_true rfl, Nat.le_of_ble_eq_true rfl⟩) ⟨fun a U g mk q => q, fun U hU hW => ⟨rfl, trivial⟩⟩ rfl rfl hl.1 rfl (lv_room (Nat.le_of_ble_eq_true rfl)) dX5_size_1 ⟨Nat.le_of_ble_eq_true rfl, Nat.le_of_ble_eq_true rfl⟩) (fun r_1 hwr_1 => ?_)
  rcases hwr_1 with ⟨rfl, hwr_1⟩ | ⟨rfl, hwr_1⟩
  · refine lv_if_eq (tgt := 14) hx hb dX5_size_4 (by decide) (fun c_2 => False.elim (by revert c_2; decide)) (fun _ => ?_)
    refine lv_iload_n hx hb dX5_size_7 rfl (lv_at hl 2 rfl) ?_
    refine vp_callSi (W.runS (As := [.int p1]) (rest := []) ⟨hx, hb, hml, hown, hts⟩ (kX5_isForm l p1) (va_cwS 1 hts gX5_size_X5_isForm rfl rfl rfl (by decide +kernel) ⟨Nat.le_of_ble_eq_true rfl, Nat.le_of_ble_eq_true rfl⟩) ⟨fun a U g mk q => q, fun U hU hW => ⟨rfl, trivial⟩⟩ rfl rfl hl.1 rfl (lv_room (Nat.le_of_ble_eq_true rfl)) dX5_size_8 ⟨Nat.le_of_ble_eq_true rfl, Nat.le_of_ble_eq_true rfl⟩) (fun r_3 hwr_3 => ?_)
    rcases hwr_3 with ⟨rfl, hwr_3⟩ | ⟨rfl, hwr_3⟩
    · refine lv_if_ne (tgt := 16) hx hb dX5_size_11 (by decide) (fun _ => ?_) (fun c_4 => False.elim (by revert c_4; decide))
      refine lv_aload_n hx hb dX5_size_16 rfl (lv_at hl 0 rfl) ?_
      refine va_get (D := (dC, dI)) (ci := 4) (v := .ref g1) (C := RX5) (T := TX5) (N := 23) hx hb hts (by decide +kernel) hown hK hP 0 rfl rfl 0 (by decide) (hts (.fieldLink RX5 7 "SignFormsModel" "isOpen" "[Z") (by decide +kernel)) (fun _ h9 => h9) rfl dX5_size_17 ?_
      refine lv_iload_n hx hb dX5_size_20 rfl (lv_at hl 1 rfl) ?_
      refine va_zald hx hb hK hP 1 0 rfl rfl (vp_in_iff.mpr (by omega)) dX5_size_21 ?_
      refine W.eq (g2 := F0 m 22 ls [.int 0]) rfl ?_
      refine lv_if_ne (tgt := 28) hx hb dX5_size_22 (by decide) (fun c_5 => False.elim (by revert c_5; decide)) (fun _ => ?_)
      refine lv_bipush (v := (-2)) hx hb dX5_size_25 (by decide) ?_
      exact W.iret (v := (-2)) hx hb hr (fun t ht hW => ⟨(-2), rfl, by unfold an_write; first | rw [if_pos (by omega)] | rw [if_neg (by omega)], ht⟩) (fun q h => by cases h) dX5_size_27
    · refine lv_if_ne (tgt := 16) hx hb dX5_size_11 (by decide) (fun c_6 => False.elim (by revert c_6; decide)) (fun _ => ?_)
      refine lv_iconst (v := (-1)) hx hb dX5_size_14 (by decide) ?_
      exact W.iret (v := (-1)) hx hb hr (fun t ht hW => ⟨(-1), rfl, by unfold an_write; first | rw [if_pos (by omega)] | rw [if_neg (by omega)], ht⟩) (fun q h => by cases h) dX5_size_15
  · refine lv_if_eq (tgt := 14) hx hb dX5_size_4 (by decide) (fun _ => ?_) (fun c_7 => False.elim (by revert c_7; decide))
    refine lv_iconst (v := (-1)) hx hb dX5_size_14 (by decide) ?_
    exact W.iret (v := (-1)) hx hb hr (fun t ht hW => ⟨(-1), rfl, by unfold an_write; first | rw [if_pos (by omega)] | rw [if_neg (by omega)], ht⟩) (fun q h => by cases h) dX5_size_15
set_option maxHeartbeats 4000000 in
set_option maxRecDepth 100000 in
theorem kX5_out (l : Launch) (dC : Nat → ClassId) (dI : Nat → Nat → Nat) (g0 g1 g2 g3 g4 g5 g6 g7 g8 g9 g10 g11 g12 g13 g14 g15 g16 g17 g18 g19 : Nat) (p0 : Int32) : Met l yX5_out wsX5_out ({ frames := 0, cells := 0, slots := 0, locals := 0 } : Room) (va_Pc [.ref g0, .int p0] (fun U => va_P (dC, dI) vwCl [(g0, .inr (4, [.ref g1, .ref g2, .ref g3, .ref g4, .ref g5, .ref g6, .ref g7, .ref g8, .ref g9, .ref g10, .ref g11, .ref g12, .ref g13, .ref g14, .ref g15, .ref g16, .ref g17, .ref g18, .int 0, .ref g19, .int 0, .int 0, .int 0]))] U.heap ∧ va_K (dC, dI) vwCl [] U)) (vp_Si (fun r => r = -1)) 0 0 (fun _ => False) := by
  refine Met.ofW (cc := cX5_out) (maxL := 2) (ret := (some .int)) (by decide) rfl ?_
  intro p e s m args below meth c s₁ B hml hv
  obtain ⟨rfl, hP, hK⟩ := hv
  have hx := B.exec
  have hb := B.bytes
  have hr := B.returns
  have hts := atoms_spec (ws := wsX5_out) B.pre
  have hown : s.vm.findClass RX5 = some m.cls := findClass_of_methodNamed B.named
  have hlocks := B.notSynchronized
  have hl := lv_entry ([.ref g0, .int p0]) (n := 2) (Nat.le_of_ble_eq_true rfl)
  rw [lg_entry_eq]
  generalize (lg_sl ([.ref g0, .int p0]) ++ List.replicate (2 - (lg_sl ([.ref g0, .int p0])).length) Slot.unset).toArray = ls at hl ⊢
  have hl : lv_has ls 2 [(0, .ref g0), (1, .int p0)] := hl
  refine lv_iload_n hx hb dX5_out_0 rfl (lv_at hl 1 rfl) ?_
  refine lv_if_lt (tgt := 12) hx hb dX5_out_1 (by decide) (fun c_1 => ?_) (fun c_1 => ?_)
  · have zc_1 : p0.toInt < (0 : Int) := zz_lt rfl (by decide) c_1
    refine lv_iconst (v := (-1)) hx hb dX5_out_12 (by decide) ?_
    refine lv_goto (tgt := 22) hx hb dX5_out_13 (by decide) ?_
    exact W.iret (v := (-1)) hx hb hr (fun t ht hW => ⟨(-1), rfl, rfl, ht⟩) (fun q h => by cases h) dX5_out_22
  · have zc_1 : p0.toInt ≥ (0 : Int) := zz_nlt rfl (by decide) c_1
    refine lv_iload_n hx hb dX5_out_4 rfl (lv_at hl 1 rfl) ?_
    refine lv_aload_n hx hb dX5_out_5 rfl (lv_at hl 0 rfl) ?_
    refine va_get (D := (dC, dI)) (ci := 4) (v := .int 0) (C := RX5) (T := TX5) (N := 23) hx hb hts (by decide +kernel) hown hK hP 0 rfl rfl 18 (by decide) (hts (.fieldLink RX5 68 "SignFormsModel" "outSize" "I") (by decide +kernel)) (fun _ h9 => h9) rfl dX5_out_6 ?_
    refine lv_icmp_lt (tgt := 16) hx hb dX5_out_9 (by decide) (fun c_2 => ?_) (fun c_2 => ?_)
    · have zc_2 : p0.toInt < (0 : Int) := zz_lt rfl (by decide) c_2
      exfalso
      omega
    · have zc_2 : p0.toInt ≥ (0 : Int) := zz_nlt rfl (by decide) c_2
      refine lv_iconst (v := (-1)) hx hb dX5_out_12 (by decide) ?_
      refine lv_goto (tgt := 22) hx hb dX5_out_13 (by decide) ?_
      exact W.iret (v := (-1)) hx hb hr (fun t ht hW => ⟨(-1), rfl, rfl, ht⟩) (fun q h => by cases h) dX5_out_22
set_option maxHeartbeats 4000000 in
set_option maxRecDepth 100000 in
theorem kX5_check (l : Launch) (dC : Nat → ClassId) (dI : Nat → Nat → Nat) (g0 g1 g2 g3 g4 g5 g6 g7 g8 g9 g10 g11 g12 g13 g14 g15 g16 g17 g18 g19 : Nat) (p0 : Int32) : Met l yX5_check wsX5_check ({ frames := 1, cells := 0, slots := 0, locals := 20 } : Room) (va_Pc [.ref g0, .int p0] (fun U => va_P (dC, dI) vwCl [(g0, .inr (4, [.ref g1, .ref g2, .ref g3, .ref g4, .ref g5, .ref g6, .ref g7, .ref g8, .ref g9, .ref g10, .ref g11, .ref g12, .ref g13, .ref g14, .ref g15, .ref g16, .ref g17, .ref g18, .int 0, .ref g19, .int 0, .int 0, .int 0]))] U.heap ∧ va_K (dC, dI) vwCl [] U)) (vp_Si (fun r => r = an_check p0)) 0 0 (fun _ => False) := by
  refine Met.ofW (cc := cX5_check) (maxL := 3) (ret := (some .int)) (by decide) rfl ?_
  intro p e s m args below meth c s₁ B hml hv
  obtain ⟨rfl, hP, hK⟩ := hv
  have hx := B.exec
  have hb := B.bytes
  have hr := B.returns
  have hts := atoms_spec (ws := wsX5_check) B.pre
  have hown : s.vm.findClass RX5 = some m.cls := findClass_of_methodNamed B.named
  have hlocks := B.notSynchronized
  have hl := lv_entry ([.ref g0, .int p0]) (n := 3) (Nat.le_of_ble_eq_true rfl)
  rw [lg_entry_eq]
  generalize (lg_sl ([.ref g0, .int p0]) ++ List.replicate (3 - (lg_sl ([.ref g0, .int p0])).length) Slot.unset).toArray = ls at hl ⊢
  have hl : lv_has ls 3 [(0, .ref g0), (1, .int p0)] := hl
  refine lv_iload_n hx hb dX5_check_0 rfl (lv_at hl 1 rfl) ?_
  refine vp_callSi (W.runS (As := [.int p0]) (rest := []) ⟨hx, hb, hml, hown, hts⟩ (kX5_isForm l p0) (va_cwS 1 hts gX5_check_X5_isForm rfl rfl rfl (by decide +kernel) ⟨Nat.le_of_ble_eq_true rfl, Nat.le_of_ble_eq_true rfl⟩) ⟨fun a U g mk q => q, fun U hU hW => ⟨rfl, trivial⟩⟩ rfl rfl hl.1 rfl (lv_room (Nat.le_of_ble_eq_true rfl)) dX5_check_1 ⟨Nat.le_of_ble_eq_true rfl, Nat.le_of_ble_eq_true rfl⟩) (fun r_1 hwr_1 => ?_)
  rcases hwr_1 with ⟨rfl, hwr_1⟩ | ⟨rfl, hwr_1⟩
  · refine lv_if_ne (tgt := 9) hx hb dX5_check_4 (by decide) (fun _ => ?_) (fun c_2 => False.elim (by revert c_2; decide))
    refine lv_iconst (v := 0) hx hb dX5_check_9 (by decide) ?_
    refine lv_istore_n (lv' := [(2, .int 0), (0, .ref g0), (1, .int p0)]) hx hb dX5_check_10 rfl hl (by decide) rfl (fun ls hl => ?_)
    refine lv_iload_n hx hb dX5_check_11 rfl (lv_at hl 0 rfl) ?_
    refine lv_aload_n hx hb dX5_check_12 rfl (lv_at hl 1 rfl) ?_
    refine va_get (D := (dC, dI)) (ci := 4) (v := .int 0) (C := RX5) (T := TX5) (N := 23) hx hb hts (by decide +kernel) hown hK hP 0 rfl rfl 18 (by decide) (hts (.fieldLink RX5 68 "SignFormsModel" "outSize" "I") (by decide +kernel)) (fun _ h9 => h9) rfl dX5_check_13 ?_
    refine lv_icmp_ge (tgt := 37) hx hb dX5_check_16 (by decide) (fun _ => ?_) (fun c_3 => False.elim (by revert c_3; decide))
    refine lv_iconst (v := 0) hx hb dX5_check_37 (by decide) ?_
    refine lv_istore_n (lv' := [(2, .int 0), (0, .ref g0), (1, .int p0)]) hx hb dX5_check_38 rfl hl (by decide) rfl (fun ls hl => ?_)
    refine lv_iload_n hx hb dX5_check_39 rfl (lv_at hl 0 rfl) ?_
    refine lv_aload_n hx hb dX5_check_40 rfl (lv_at hl 1 rfl) ?_
    refine va_get (D := (dC, dI)) (ci := 4) (v := .int 0) (C := RX5) (T := TX5) (N := 23) hx hb hts (by decide +kernel) hown hK hP 0 rfl rfl 18 (by decide) (hts (.fieldLink RX5 68 "SignFormsModel" "outSize" "I") (by decide +kernel)) (fun _ h9 => h9) rfl dX5_check_41 ?_
    refine lv_icmp_ge (tgt := 74) hx hb dX5_check_44 (by decide) (fun _ => ?_) (fun c_4 => False.elim (by revert c_4; decide))
    refine lv_bipush (v := (-2)) hx hb dX5_check_74 (by decide) ?_
    exact W.iret (v := (-2)) hx hb hr (fun t ht hW => ⟨(-2), rfl, by unfold an_check; first | rw [if_pos (by omega)] | rw [if_neg (by omega)], ht⟩) (fun q h => by cases h) dX5_check_76
  · refine lv_if_ne (tgt := 9) hx hb dX5_check_4 (by decide) (fun c_5 => False.elim (by revert c_5; decide)) (fun _ => ?_)
    refine lv_iconst (v := (-1)) hx hb dX5_check_7 (by decide) ?_
    exact W.iret (v := (-1)) hx hb hr (fun t ht hW => ⟨(-1), rfl, by unfold an_check; first | rw [if_pos (by omega)] | rw [if_neg (by omega)], ht⟩) (fun q h => by cases h) dX5_check_8
set_option maxHeartbeats 4000000 in
set_option maxRecDepth 100000 in
theorem kX5_order (l : Launch) (dC : Nat → ClassId) (dI : Nat → Nat → Nat) (g0 g1 g2 g3 g4 g5 g6 g7 g8 g9 g10 g11 g12 g13 g14 g15 g16 g17 g18 g19 : Nat) (kZ : ClassId) (p0 : Int32) (p1 : Int32) (p2 : Int32) : Met l yX5_order wsX5_order ({ frames := 1, cells := 0, slots := 0, locals := 20 } : Room) (va_Pc [.ref g0, .int p0, .int p1, .int p2] (fun U => va_P (dC, dI) vwCl [(g0, .inr (4, [.ref g1, .ref g2, .ref g3, .ref g4, .ref g5, .ref g6, .ref g7, .ref g8, .ref g9, .ref g10, .ref g11, .ref g12, .ref g13, .ref g14, .ref g15, .ref g16, .ref g17, .ref g18, .int 0, .ref g19, .int 0, .int 0, .int 0])), (g1, .inl (kZ, 4, .inl (fun _ => 0)))] U.heap ∧ va_K (dC, dI) vwCl [(kZ, .boolean)] U)) (vp_Si (fun r => r = an_order p0 p1 p2)) 0 0 (fun _ => False) := by
  refine Met.ofW (cc := cX5_order) (maxL := 9) (ret := (some .int)) (by decide) rfl ?_
  intro p e s m args below meth c s₁ B hml hv
  obtain ⟨rfl, hP, hK⟩ := hv
  have hx := B.exec
  have hb := B.bytes
  have hr := B.returns
  have hts := atoms_spec (ws := wsX5_order) B.pre
  have hown : s.vm.findClass RX5 = some m.cls := findClass_of_methodNamed B.named
  have hlocks := B.notSynchronized
  have hl := lv_entry ([.ref g0, .int p0, .int p1, .int p2]) (n := 9) (Nat.le_of_ble_eq_true rfl)
  rw [lg_entry_eq]
  generalize (lg_sl ([.ref g0, .int p0, .int p1, .int p2]) ++ List.replicate (9 - (lg_sl ([.ref g0, .int p0, .int p1, .int p2])).length) Slot.unset).toArray = ls at hl ⊢
  have hl : lv_has ls 9 [(0, .ref g0), (1, .int p0), (2, .int p1), (3, .int p2)] := hl
  refine lv_iload_n hx hb dX5_order_0 rfl (lv_at hl 1 rfl) ?_
  refine vp_callSi (W.runS (As := [.int p0]) (rest := []) ⟨hx, hb, hml, hown, hts⟩ (kX5_isStream l p0) (va_cwS 1 hts gX5_order_X5_isStream rfl rfl rfl (by decide +kernel) ⟨Nat.le_of_ble_eq_true rfl, Nat.le_of_ble_eq_true rfl⟩) ⟨fun a U g mk q => q, fun U hU hW => ⟨rfl, trivial⟩⟩ rfl rfl hl.1 rfl (lv_room (Nat.le_of_ble_eq_true rfl)) dX5_order_1 ⟨Nat.le_of_ble_eq_true rfl, Nat.le_of_ble_eq_true rfl⟩) (fun r_1 hwr_1 => ?_)
  rcases hwr_1 with ⟨rfl, hwr_1⟩ | ⟨rfl, hwr_1⟩
  · refine lv_if_eq (tgt := 23) hx hb dX5_order_4 (by decide) (fun c_2 => False.elim (by revert c_2; decide)) (fun _ => ?_)
    refine lv_iload_n hx hb dX5_order_7 rfl (lv_at hl 2 rfl) ?_
    refine vp_callSi (W.runS (As := [.int p1]) (rest := []) ⟨hx, hb, hml, hown, hts⟩ (kX5_isStream l p1) (va_cwS 1 hts gX5_order_X5_isStream rfl rfl rfl (by decide +kernel) ⟨Nat.le_of_ble_eq_true rfl, Nat.le_of_ble_eq_true rfl⟩) ⟨fun a U g mk q => q, fun U hU hW => ⟨rfl, trivial⟩⟩ rfl rfl hl.1 rfl (lv_room (Nat.le_of_ble_eq_true rfl)) dX5_order_8 ⟨Nat.le_of_ble_eq_true rfl, Nat.le_of_ble_eq_true rfl⟩) (fun r_3 hwr_3 => ?_)
    rcases hwr_3 with ⟨rfl, hwr_3⟩ | ⟨rfl, hwr_3⟩
    · refine lv_if_eq (tgt := 23) hx hb dX5_order_11 (by decide) (fun c_4 => False.elim (by revert c_4; decide)) (fun _ => ?_)
      refine lv_iload_n hx hb dX5_order_14 rfl (lv_at hl 3 rfl) ?_
      refine lv_if_lt (tgt := 23) hx hb dX5_order_15 (by decide) (fun c_5 => ?_) (fun c_5 => ?_)
      · have zc_5 : p2.toInt < (0 : Int) := zz_lt rfl (by decide) c_5
        refine lv_iconst (v := (-1)) hx hb dX5_order_23 (by decide) ?_
        exact W.iret (v := (-1)) hx hb hr (fun t ht hW => ⟨(-1), rfl, by unfold an_order; first | rw [if_pos (by omega)] | rw [if_neg (by omega)], ht⟩) (fun q h => by cases h) dX5_order_24
      · have zc_5 : p2.toInt ≥ (0 : Int) := zz_nlt rfl (by decide) c_5
        refine lv_iload_n hx hb dX5_order_18 rfl (lv_at hl 3 rfl) ?_
        refine lv_iconst (v := 2) hx hb dX5_order_19 (by decide) ?_
        refine lv_icmp_le (tgt := 25) hx hb dX5_order_20 (by decide) (fun c_6 => ?_) (fun c_6 => ?_)
        · have zc_6 : p2.toInt ≤ (2 : Int) := zz_le rfl (by decide) c_6
          refine lv_aload_n hx hb dX5_order_25 rfl (lv_at hl 0 rfl) ?_
          refine va_get (D := (dC, dI)) (ci := 4) (v := .ref g1) (C := RX5) (T := TX5) (N := 23) hx hb hts (by decide +kernel) hown hK hP 0 rfl rfl 0 (by decide) (hts (.fieldLink RX5 7 "SignFormsModel" "isOpen" "[Z") (by decide +kernel)) (fun _ h9 => h9) rfl dX5_order_26 ?_
          refine lv_iload_n hx hb dX5_order_29 rfl (lv_at hl 1 rfl) ?_
          refine va_zald hx hb hK hP 1 0 rfl rfl (vp_in_iff.mpr (by omega)) dX5_order_30 ?_
          refine W.eq (g2 := F0 m 31 ls [.int 0]) rfl ?_
          refine lv_if_eq (tgt := 43) hx hb dX5_order_31 (by decide) (fun _ => ?_) (fun c_7 => False.elim (by revert c_7; decide))
          refine lv_bipush (v := (-2)) hx hb dX5_order_43 (by decide) ?_
          exact W.iret (v := (-2)) hx hb hr (fun t ht hW => ⟨(-2), rfl, by unfold an_order; first | rw [if_pos (by omega)] | rw [if_neg (by omega)], ht⟩) (fun q h => by cases h) dX5_order_45
        · have zc_6 : p2.toInt > (2 : Int) := zz_nle rfl (by decide) c_6
          refine lv_iconst (v := (-1)) hx hb dX5_order_23 (by decide) ?_
          exact W.iret (v := (-1)) hx hb hr (fun t ht hW => ⟨(-1), rfl, by unfold an_order; first | rw [if_pos (by omega)] | rw [if_neg (by omega)], ht⟩) (fun q h => by cases h) dX5_order_24
    · refine lv_if_eq (tgt := 23) hx hb dX5_order_11 (by decide) (fun _ => ?_) (fun c_8 => False.elim (by revert c_8; decide))
      refine lv_iconst (v := (-1)) hx hb dX5_order_23 (by decide) ?_
      exact W.iret (v := (-1)) hx hb hr (fun t ht hW => ⟨(-1), rfl, by unfold an_order; first | rw [if_pos (by omega)] | rw [if_neg (by omega)], ht⟩) (fun q h => by cases h) dX5_order_24
  · refine lv_if_eq (tgt := 23) hx hb dX5_order_4 (by decide) (fun _ => ?_) (fun c_9 => False.elim (by revert c_9; decide))
    refine lv_iconst (v := (-1)) hx hb dX5_order_23 (by decide) ?_
    exact W.iret (v := (-1)) hx hb hr (fun t ht hW => ⟨(-1), rfl, by unfold an_order; first | rw [if_pos (by omega)] | rw [if_neg (by omega)], ht⟩) (fun q h => by cases h) dX5_order_24
set_option maxHeartbeats 4000000 in
set_option maxRecDepth 100000 in
theorem kX5_among (l : Launch) (dC : Nat → ClassId) (dI : Nat → Nat → Nat) (g0 g1 g2 g3 g4 g5 g6 g7 g8 g9 g10 g11 g12 g13 g14 g15 g16 g17 g18 g19 : Nat) (kZ : ClassId) (p0 : Int32) (p1 : Int32) (p2 : Int32) : Met l yX5_among wsX5_among ({ frames := 1, cells := 0, slots := 0, locals := 20 } : Room) (va_Pc [.ref g0, .int p0, .int p1, .int p2] (fun U => va_P (dC, dI) vwCl [(g0, .inr (4, [.ref g1, .ref g2, .ref g3, .ref g4, .ref g5, .ref g6, .ref g7, .ref g8, .ref g9, .ref g10, .ref g11, .ref g12, .ref g13, .ref g14, .ref g15, .ref g16, .ref g17, .ref g18, .int 0, .ref g19, .int 0, .int 0, .int 0])), (g1, .inl (kZ, 4, .inl (fun _ => 0)))] U.heap ∧ va_K (dC, dI) vwCl [(kZ, .boolean)] U)) (vp_Si (fun r => r = an_end p0)) 0 0 (fun _ => False) := by
  refine Met.ofW (cc := cX5_among) (maxL := 7) (ret := (some .int)) (by decide) rfl ?_
  intro p e s m args below meth c s₁ B hml hv
  obtain ⟨rfl, hP, hK⟩ := hv
  have hx := B.exec
  have hb := B.bytes
  have hr := B.returns
  have hts := atoms_spec (ws := wsX5_among) B.pre
  have hown : s.vm.findClass RX5 = some m.cls := findClass_of_methodNamed B.named
  have hlocks := B.notSynchronized
  have hl := lv_entry ([.ref g0, .int p0, .int p1, .int p2]) (n := 7) (Nat.le_of_ble_eq_true rfl)
  rw [lg_entry_eq]
  generalize (lg_sl ([.ref g0, .int p0, .int p1, .int p2]) ++ List.replicate (7 - (lg_sl ([.ref g0, .int p0, .int p1, .int p2])).length) Slot.unset).toArray = ls at hl ⊢
  have hl : lv_has ls 7 [(0, .ref g0), (1, .int p0), (2, .int p1), (3, .int p2)] := hl
  refine lv_iload_n hx hb dX5_among_0 rfl (lv_at hl 1 rfl) ?_
  refine vp_callSi (W.runS (As := [.int p0]) (rest := []) ⟨hx, hb, hml, hown, hts⟩ (kX5_isStream l p0) (va_cwS 1 hts gX5_among_X5_isStream rfl rfl rfl (by decide +kernel) ⟨Nat.le_of_ble_eq_true rfl, Nat.le_of_ble_eq_true rfl⟩) ⟨fun a U g mk q => q, fun U hU hW => ⟨rfl, trivial⟩⟩ rfl rfl hl.1 rfl (lv_room (Nat.le_of_ble_eq_true rfl)) dX5_among_1 ⟨Nat.le_of_ble_eq_true rfl, Nat.le_of_ble_eq_true rfl⟩) (fun r_1 hwr_1 => ?_)
  rcases hwr_1 with ⟨rfl, hwr_1⟩ | ⟨rfl, hwr_1⟩
  · refine lv_if_ne (tgt := 9) hx hb dX5_among_4 (by decide) (fun _ => ?_) (fun c_2 => False.elim (by revert c_2; decide))
    refine lv_aload_n hx hb dX5_among_9 rfl (lv_at hl 0 rfl) ?_
    refine va_get (D := (dC, dI)) (ci := 4) (v := .ref g1) (C := RX5) (T := TX5) (N := 23) hx hb hts (by decide +kernel) hown hK hP 0 rfl rfl 0 (by decide) (hts (.fieldLink RX5 7 "SignFormsModel" "isOpen" "[Z") (by decide +kernel)) (fun _ h9 => h9) rfl dX5_among_10 ?_
    refine lv_iload_n hx hb dX5_among_13 rfl (lv_at hl 1 rfl) ?_
    refine va_zald hx hb hK hP 1 0 rfl rfl (vp_in_iff.mpr (by omega)) dX5_among_14 ?_
    refine W.eq (g2 := F0 m 15 ls [.int 0]) rfl ?_
    refine lv_if_ne (tgt := 21) hx hb dX5_among_15 (by decide) (fun c_3 => False.elim (by revert c_3; decide)) (fun _ => ?_)
    refine lv_bipush (v := (-2)) hx hb dX5_among_18 (by decide) ?_
    exact W.iret (v := (-2)) hx hb hr (fun t ht hW => ⟨(-2), rfl, by unfold an_end; first | rw [if_pos (by omega)] | rw [if_neg (by omega)], ht⟩) (fun q h => by cases h) dX5_among_20
  · refine lv_if_ne (tgt := 9) hx hb dX5_among_4 (by decide) (fun c_4 => False.elim (by revert c_4; decide)) (fun _ => ?_)
    refine lv_iconst (v := (-1)) hx hb dX5_among_7 (by decide) ?_
    exact W.iret (v := (-1)) hx hb hr (fun t ht hW => ⟨(-1), rfl, by unfold an_end; first | rw [if_pos (by omega)] | rw [if_neg (by omega)], ht⟩) (fun q h => by cases h) dX5_among_8
end
section
theorem dX1_init_0 : decode cX1_init 0 = .ok (.aload_n 0, 1) := by decide +kernel
theorem dX1_init_1 : decode cX1_init 1 = .ok (.invokespecial 3, 3) := by decide +kernel
theorem dX1_init_4 : decode cX1_init 4 = .ok (.aload_n 0, 1) := by decide +kernel
theorem dX1_init_5 : decode cX1_init 5 = .ok (.sipush 6000, 3) := by decide +kernel
theorem dX1_init_8 : decode cX1_init 8 = .ok (.newarray .int, 2) := by decide +kernel
theorem dX1_init_10 : decode cX1_init 10 = .ok (.putfield 9, 3) := by decide +kernel
theorem dX1_init_13 : decode cX1_init 13 = .ok (.aload_n 0, 1) := by decide +kernel
theorem dX1_init_14 : decode cX1_init 14 = .ok (.iconst 0, 1) := by decide +kernel
theorem dX1_init_15 : decode cX1_init 15 = .ok (.putfield 15, 3) := by decide +kernel
theorem dX1_init_18 : decode cX1_init 18 = .ok (.return_, 1) := by decide +kernel
theorem dX2_init_0 : decode cX2_init 0 = .ok (.aload_n 0, 1) := by decide +kernel
theorem dX2_init_1 : decode cX2_init 1 = .ok (.invokespecial 3, 3) := by decide +kernel
theorem dX2_init_4 : decode cX2_init 4 = .ok (.return_, 1) := by decide +kernel
set_option maxRecDepth 20000 in
theorem ggX3_init_X2_init : GoodIn wsX3_init wsX2_init := goodIn_r _ [15, 16, 2, 3] (by decide +kernel) (by decide +kernel)
set_option maxRecDepth 20000 in
theorem gX3_init_X2_init_n29 : GoodIn wsX3_init (wsX2_init) := ggX3_init_X2_init
theorem dX3_init_0 : decode cX3_init 0 = .ok (.aload_n 0, 1) := by decide +kernel
theorem dX3_init_1 : decode cX3_init 1 = .ok (.invokespecial 3, 3) := by decide +kernel
theorem dX3_init_4 : decode cX3_init 4 = .ok (.aload_n 0, 1) := by decide +kernel
theorem dX3_init_5 : decode cX3_init 5 = .ok (.sipush 2000, 3) := by decide +kernel
theorem dX3_init_8 : decode cX3_init 8 = .ok (.newarray .int, 2) := by decide +kernel
theorem dX3_init_10 : decode cX3_init 10 = .ok (.putfield 9, 3) := by decide +kernel
theorem dX3_init_13 : decode cX3_init 13 = .ok (.aload_n 0, 1) := by decide +kernel
theorem dX3_init_14 : decode cX3_init 14 = .ok (.sipush 2000, 3) := by decide +kernel
theorem dX3_init_17 : decode cX3_init 17 = .ok (.newarray .int, 2) := by decide +kernel
theorem dX3_init_19 : decode cX3_init 19 = .ok (.putfield 15, 3) := by decide +kernel
theorem dX3_init_22 : decode cX3_init 22 = .ok (.aload_n 0, 1) := by decide +kernel
theorem dX3_init_23 : decode cX3_init 23 = .ok (.sipush 2000, 3) := by decide +kernel
theorem dX3_init_26 : decode cX3_init 26 = .ok (.newarray .int, 2) := by decide +kernel
theorem dX3_init_28 : decode cX3_init 28 = .ok (.putfield 18, 3) := by decide +kernel
theorem dX3_init_31 : decode cX3_init 31 = .ok (.aload_n 0, 1) := by decide +kernel
theorem dX3_init_32 : decode cX3_init 32 = .ok (.sipush 2000, 3) := by decide +kernel
theorem dX3_init_35 : decode cX3_init 35 = .ok (.newarray .int, 2) := by decide +kernel
theorem dX3_init_37 : decode cX3_init 37 = .ok (.putfield 21, 3) := by decide +kernel
theorem dX3_init_40 : decode cX3_init 40 = .ok (.aload_n 0, 1) := by decide +kernel
theorem dX3_init_41 : decode cX3_init 41 = .ok (.sipush 2000, 3) := by decide +kernel
theorem dX3_init_44 : decode cX3_init 44 = .ok (.newarray .int, 2) := by decide +kernel
theorem dX3_init_46 : decode cX3_init 46 = .ok (.putfield 24, 3) := by decide +kernel
theorem dX3_init_49 : decode cX3_init 49 = .ok (.aload_n 0, 1) := by decide +kernel
theorem dX3_init_50 : decode cX3_init 50 = .ok (.new 27, 3) := by decide +kernel
theorem dX3_init_53 : decode cX3_init 53 = .ok (.dup, 1) := by decide +kernel
theorem dX3_init_54 : decode cX3_init 54 = .ok (.invokespecial 29, 3) := by decide +kernel
theorem dX3_init_57 : decode cX3_init 57 = .ok (.putfield 30, 3) := by decide +kernel
theorem dX3_init_60 : decode cX3_init 60 = .ok (.return_, 1) := by decide +kernel
theorem dX3_begin_0 : decode cX3_begin 0 = .ok (.aload_n 0, 1) := by decide +kernel
theorem dX3_begin_1 : decode cX3_begin 1 = .ok (.iload_n 1, 1) := by decide +kernel
theorem dX3_begin_2 : decode cX3_begin 2 = .ok (.putfield 34, 3) := by decide +kernel
theorem dX3_begin_5 : decode cX3_begin 5 = .ok (.aload_n 0, 1) := by decide +kernel
theorem dX3_begin_6 : decode cX3_begin 6 = .ok (.iload_n 2, 1) := by decide +kernel
theorem dX3_begin_7 : decode cX3_begin 7 = .ok (.putfield 38, 3) := by decide +kernel
theorem dX3_begin_10 : decode cX3_begin 10 = .ok (.aload_n 0, 1) := by decide +kernel
theorem dX3_begin_11 : decode cX3_begin 11 = .ok (.iconst 0, 1) := by decide +kernel
theorem dX3_begin_12 : decode cX3_begin 12 = .ok (.putfield 41, 3) := by decide +kernel
theorem dX3_begin_15 : decode cX3_begin 15 = .ok (.aload_n 0, 1) := by decide +kernel
theorem dX3_begin_16 : decode cX3_begin 16 = .ok (.iconst 0, 1) := by decide +kernel
theorem dX3_begin_17 : decode cX3_begin 17 = .ok (.putfield 44, 3) := by decide +kernel
theorem dX3_begin_20 : decode cX3_begin 20 = .ok (.aload_n 0, 1) := by decide +kernel
theorem dX3_begin_21 : decode cX3_begin 21 = .ok (.iconst 0, 1) := by decide +kernel
theorem dX3_begin_22 : decode cX3_begin 22 = .ok (.putfield 47, 3) := by decide +kernel
theorem dX3_begin_25 : decode cX3_begin 25 = .ok (.aload_n 0, 1) := by decide +kernel
theorem dX3_begin_26 : decode cX3_begin 26 = .ok (.iconst 0, 1) := by decide +kernel
theorem dX3_begin_27 : decode cX3_begin 27 = .ok (.putfield 50, 3) := by decide +kernel
theorem dX3_begin_30 : decode cX3_begin 30 = .ok (.aload_n 0, 1) := by decide +kernel
theorem dX3_begin_31 : decode cX3_begin 31 = .ok (.iconst (-1), 1) := by decide +kernel
theorem dX3_begin_32 : decode cX3_begin 32 = .ok (.putfield 53, 3) := by decide +kernel
theorem dX3_begin_35 : decode cX3_begin 35 = .ok (.aload_n 0, 1) := by decide +kernel
theorem dX3_begin_36 : decode cX3_begin 36 = .ok (.iconst (-1), 1) := by decide +kernel
theorem dX3_begin_37 : decode cX3_begin 37 = .ok (.putfield 56, 3) := by decide +kernel
theorem dX3_begin_40 : decode cX3_begin 40 = .ok (.aload_n 0, 1) := by decide +kernel
theorem dX3_begin_41 : decode cX3_begin 41 = .ok (.iconst 0, 1) := by decide +kernel
theorem dX3_begin_42 : decode cX3_begin 42 = .ok (.putfield 59, 3) := by decide +kernel
theorem dX3_begin_45 : decode cX3_begin 45 = .ok (.aload_n 0, 1) := by decide +kernel
theorem dX3_begin_46 : decode cX3_begin 46 = .ok (.iconst 0, 1) := by decide +kernel
theorem dX3_begin_47 : decode cX3_begin 47 = .ok (.putfield 63, 3) := by decide +kernel
theorem dX3_begin_50 : decode cX3_begin 50 = .ok (.return_, 1) := by decide +kernel
set_option maxRecDepth 20000 in
theorem ggX4_init_X1_init : GoodIn wsX4_init wsX1_init := goodIn_r _ [16, 17, 2, 3, 18, 19, 20, 27, 28] (by decide +kernel) (by decide +kernel)
set_option maxRecDepth 20000 in
theorem gX4_init_X1_init : GoodIn wsX4_init (wsX1_init) := ggX4_init_X1_init
set_option maxRecDepth 20000 in
theorem ggX4_init_X2_init : GoodIn wsX4_init wsX2_init := goodIn_r _ [22, 23, 2, 3] (by decide +kernel) (by decide +kernel)
set_option maxRecDepth 20000 in
theorem gX4_init_X2_init_n24 : GoodIn wsX4_init (wsX2_init) := ggX4_init_X2_init
theorem dX4_init_0 : decode cX4_init 0 = .ok (.aload_n 0, 1) := by decide +kernel
theorem dX4_init_1 : decode cX4_init 1 = .ok (.invokespecial 3, 3) := by decide +kernel
theorem dX4_init_4 : decode cX4_init 4 = .ok (.aload_n 0, 1) := by decide +kernel
theorem dX4_init_5 : decode cX4_init 5 = .ok (.iconst 4, 1) := by decide +kernel
theorem dX4_init_6 : decode cX4_init 6 = .ok (.anewarray 9, 3) := by decide +kernel
theorem dX4_init_9 : decode cX4_init 9 = .ok (.putfield 11, 3) := by decide +kernel
theorem dX4_init_12 : decode cX4_init 12 = .ok (.aload_n 0, 1) := by decide +kernel
theorem dX4_init_13 : decode cX4_init 13 = .ok (.new 15, 3) := by decide +kernel
theorem dX4_init_16 : decode cX4_init 16 = .ok (.dup, 1) := by decide +kernel
theorem dX4_init_17 : decode cX4_init 17 = .ok (.invokespecial 17, 3) := by decide +kernel
theorem dX4_init_20 : decode cX4_init 20 = .ok (.putfield 18, 3) := by decide +kernel
theorem dX4_init_23 : decode cX4_init 23 = .ok (.aload_n 0, 1) := by decide +kernel
theorem dX4_init_24 : decode cX4_init 24 = .ok (.new 22, 3) := by decide +kernel
theorem dX4_init_27 : decode cX4_init 27 = .ok (.dup, 1) := by decide +kernel
theorem dX4_init_28 : decode cX4_init 28 = .ok (.invokespecial 24, 3) := by decide +kernel
theorem dX4_init_31 : decode cX4_init 31 = .ok (.putfield 25, 3) := by decide +kernel
theorem dX4_init_34 : decode cX4_init 34 = .ok (.return_, 1) := by decide +kernel
set_option maxRecDepth 20000 in
theorem ggX4_open_X4_isStream : GoodIn wsX4_open wsX4_isStream := goodIn_r _ [9, 1, 43, 44, 45] (by decide +kernel) (by decide +kernel)
set_option maxRecDepth 20000 in
theorem gX4_open_X4_isStream : GoodIn wsX4_open (wsV RX4 29 RX4 yX4_isStream wsX4_isStream) := goodIn_app (goodIn_of _ (by decide +kernel)) ggX4_open_X4_isStream
set_option maxRecDepth 20000 in
theorem ggX4_open_X3_init : GoodIn wsX4_open wsX3_init := goodIn_r _ [12, 13, 14, 15, 16, 17, 18, 19, 20, 21, 22, 23, 24, 25, 26, 27, 28, 46, 47, 48, 49, 50, 51, 52, 53, 54, 55, 56, 57, 58, 59, 60, 61, 62, 63, 64] (by decide +kernel) (by decide +kernel)
set_option maxRecDepth 20000 in
theorem gX4_open_X3_init : GoodIn wsX4_open (wsX3_init) := ggX4_open_X3_init
set_option maxRecDepth 20000 in
theorem ggX4_open_X3_begin : GoodIn wsX4_open wsX3_begin := goodIn_r _ [32, 33, 34, 35, 36, 37, 38, 39, 40, 41, 42, 46, 47, 48, 49, 50, 51, 52, 53, 54, 55, 56, 57, 58, 59, 60, 61] (by decide +kernel) (by decide +kernel)
set_option maxRecDepth 20000 in
theorem gX4_open_X3_begin : GoodIn wsX4_open (wsV RX4 34 RX3 yX3_begin wsX3_begin) := goodIn_app (goodIn_of _ (by decide +kernel)) ggX4_open_X3_begin
theorem dX4_open_0 : decode cX4_open 0 = .ok (.aload_n 0, 1) := by decide +kernel
theorem dX4_open_1 : decode cX4_open 1 = .ok (.iload_n 1, 1) := by decide +kernel
theorem dX4_open_2 : decode cX4_open 2 = .ok (.invokevirtual 29, 3) := by decide +kernel
theorem dX4_open_5 : decode cX4_open 5 = .ok (.ifCond .eq 13, 3) := by decide +kernel
theorem dX4_open_8 : decode cX4_open 8 = .ok (.iload_n 2, 1) := by decide +kernel
theorem dX4_open_9 : decode cX4_open 9 = .ok (.ifCond .lt 9, 3) := by decide +kernel
theorem dX4_open_12 : decode cX4_open 12 = .ok (.iload_n 2, 1) := by decide +kernel
theorem dX4_open_13 : decode cX4_open 13 = .ok (.bipush 6, 2) := by decide +kernel
theorem dX4_open_15 : decode cX4_open 15 = .ok (.if_icmp .le 5, 3) := by decide +kernel
theorem dX4_open_18 : decode cX4_open 18 = .ok (.iconst 0, 1) := by decide +kernel
theorem dX4_open_19 : decode cX4_open 19 = .ok (.ireturn, 1) := by decide +kernel
theorem dX4_open_20 : decode cX4_open 20 = .ok (.iload_n 3, 1) := by decide +kernel
theorem dX4_open_21 : decode cX4_open 21 = .ok (.ifCond .lt 8, 3) := by decide +kernel
theorem dX4_open_24 : decode cX4_open 24 = .ok (.iload_n 3, 1) := by decide +kernel
theorem dX4_open_25 : decode cX4_open 25 = .ok (.iconst 2, 1) := by decide +kernel
theorem dX4_open_26 : decode cX4_open 26 = .ok (.if_icmp .le 5, 3) := by decide +kernel
theorem dX4_open_29 : decode cX4_open 29 = .ok (.iconst 0, 1) := by decide +kernel
theorem dX4_open_30 : decode cX4_open 30 = .ok (.ireturn, 1) := by decide +kernel
theorem dX4_open_31 : decode cX4_open 31 = .ok (.aload_n 0, 1) := by decide +kernel
theorem dX4_open_32 : decode cX4_open 32 = .ok (.getfield 11, 3) := by decide +kernel
theorem dX4_open_35 : decode cX4_open 35 = .ok (.iload_n 1, 1) := by decide +kernel
theorem dX4_open_36 : decode cX4_open 36 = .ok (.aaload, 1) := by decide +kernel
theorem dX4_open_37 : decode cX4_open 37 = .ok (.astore 4, 2) := by decide +kernel
theorem dX4_open_39 : decode cX4_open 39 = .ok (.aload 4, 2) := by decide +kernel
theorem dX4_open_41 : decode cX4_open 41 = .ok (.ifnonnull 20, 3) := by decide +kernel
theorem dX4_open_44 : decode cX4_open 44 = .ok (.new 9, 3) := by decide +kernel
theorem dX4_open_47 : decode cX4_open 47 = .ok (.dup, 1) := by decide +kernel
theorem dX4_open_48 : decode cX4_open 48 = .ok (.invokespecial 33, 3) := by decide +kernel
theorem dX4_open_51 : decode cX4_open 51 = .ok (.astore 4, 2) := by decide +kernel
theorem dX4_open_53 : decode cX4_open 53 = .ok (.aload_n 0, 1) := by decide +kernel
theorem dX4_open_54 : decode cX4_open 54 = .ok (.getfield 11, 3) := by decide +kernel
theorem dX4_open_57 : decode cX4_open 57 = .ok (.iload_n 1, 1) := by decide +kernel
theorem dX4_open_58 : decode cX4_open 58 = .ok (.aload 4, 2) := by decide +kernel
theorem dX4_open_60 : decode cX4_open 60 = .ok (.aastore, 1) := by decide +kernel
theorem dX4_open_61 : decode cX4_open 61 = .ok (.aload 4, 2) := by decide +kernel
theorem dX4_open_63 : decode cX4_open 63 = .ok (.iload_n 2, 1) := by decide +kernel
theorem dX4_open_64 : decode cX4_open 64 = .ok (.iload_n 3, 1) := by decide +kernel
theorem dX4_open_65 : decode cX4_open 65 = .ok (.invokevirtual 34, 3) := by decide +kernel
theorem dX4_open_68 : decode cX4_open 68 = .ok (.iconst 1, 1) := by decide +kernel
theorem dX4_open_69 : decode cX4_open 69 = .ok (.ireturn, 1) := by decide +kernel
theorem dX5_init_0 : decode cX5_init 0 = .ok (.aload_n 0, 1) := by decide +kernel
theorem dX5_init_1 : decode cX5_init 1 = .ok (.invokespecial 1, 3) := by decide +kernel
theorem dX5_init_4 : decode cX5_init 4 = .ok (.aload_n 0, 1) := by decide +kernel
theorem dX5_init_5 : decode cX5_init 5 = .ok (.iconst 4, 1) := by decide +kernel
theorem dX5_init_6 : decode cX5_init 6 = .ok (.newarray .boolean, 2) := by decide +kernel
theorem dX5_init_8 : decode cX5_init 8 = .ok (.putfield 7, 3) := by decide +kernel
theorem dX5_init_11 : decode cX5_init 11 = .ok (.aload_n 0, 1) := by decide +kernel
theorem dX5_init_12 : decode cX5_init 12 = .ok (.iconst 4, 1) := by decide +kernel
theorem dX5_init_13 : decode cX5_init 13 = .ok (.newarray .boolean, 2) := by decide +kernel
theorem dX5_init_15 : decode cX5_init 15 = .ok (.putfield 13, 3) := by decide +kernel
theorem dX5_init_18 : decode cX5_init 18 = .ok (.aload_n 0, 1) := by decide +kernel
theorem dX5_init_19 : decode cX5_init 19 = .ok (.iconst 4, 1) := by decide +kernel
theorem dX5_init_20 : decode cX5_init 20 = .ok (.newarray .int, 2) := by decide +kernel
theorem dX5_init_22 : decode cX5_init 22 = .ok (.putfield 16, 3) := by decide +kernel
theorem dX5_init_25 : decode cX5_init 25 = .ok (.aload_n 0, 1) := by decide +kernel
theorem dX5_init_26 : decode cX5_init 26 = .ok (.iconst 4, 1) := by decide +kernel
theorem dX5_init_27 : decode cX5_init 27 = .ok (.newarray .int, 2) := by decide +kernel
theorem dX5_init_29 : decode cX5_init 29 = .ok (.putfield 20, 3) := by decide +kernel
theorem dX5_init_32 : decode cX5_init 32 = .ok (.aload_n 0, 1) := by decide +kernel
theorem dX5_init_33 : decode cX5_init 33 = .ok (.iconst 4, 1) := by decide +kernel
theorem dX5_init_34 : decode cX5_init 34 = .ok (.newarray .int, 2) := by decide +kernel
theorem dX5_init_36 : decode cX5_init 36 = .ok (.putfield 23, 3) := by decide +kernel
theorem dX5_init_39 : decode cX5_init 39 = .ok (.aload_n 0, 1) := by decide +kernel
theorem dX5_init_40 : decode cX5_init 40 = .ok (.sipush 8000, 3) := by decide +kernel
theorem dX5_init_43 : decode cX5_init 43 = .ok (.newarray .int, 2) := by decide +kernel
theorem dX5_init_45 : decode cX5_init 45 = .ok (.putfield 26, 3) := by decide +kernel
theorem dX5_init_48 : decode cX5_init 48 = .ok (.aload_n 0, 1) := by decide +kernel
theorem dX5_init_49 : decode cX5_init 49 = .ok (.iconst 4, 1) := by decide +kernel
theorem dX5_init_50 : decode cX5_init 50 = .ok (.newarray .int, 2) := by decide +kernel
theorem dX5_init_52 : decode cX5_init 52 = .ok (.putfield 29, 3) := by decide +kernel
theorem dX5_init_55 : decode cX5_init 55 = .ok (.aload_n 0, 1) := by decide +kernel
theorem dX5_init_56 : decode cX5_init 56 = .ok (.sipush 8000, 3) := by decide +kernel
theorem dX5_init_59 : decode cX5_init 59 = .ok (.newarray .int, 2) := by decide +kernel
theorem dX5_init_61 : decode cX5_init 61 = .ok (.putfield 32, 3) := by decide +kernel
theorem dX5_init_64 : decode cX5_init 64 = .ok (.aload_n 0, 1) := by decide +kernel
theorem dX5_init_65 : decode cX5_init 65 = .ok (.sipush 8000, 3) := by decide +kernel
theorem dX5_init_68 : decode cX5_init 68 = .ok (.newarray .int, 2) := by decide +kernel
theorem dX5_init_70 : decode cX5_init 70 = .ok (.putfield 35, 3) := by decide +kernel
theorem dX5_init_73 : decode cX5_init 73 = .ok (.aload_n 0, 1) := by decide +kernel
theorem dX5_init_74 : decode cX5_init 74 = .ok (.sipush 8000, 3) := by decide +kernel
theorem dX5_init_77 : decode cX5_init 77 = .ok (.newarray .int, 2) := by decide +kernel
theorem dX5_init_79 : decode cX5_init 79 = .ok (.putfield 38, 3) := by decide +kernel
theorem dX5_init_82 : decode cX5_init 82 = .ok (.aload_n 0, 1) := by decide +kernel
theorem dX5_init_83 : decode cX5_init 83 = .ok (.sipush 8000, 3) := by decide +kernel
theorem dX5_init_86 : decode cX5_init 86 = .ok (.newarray .boolean, 2) := by decide +kernel
theorem dX5_init_88 : decode cX5_init 88 = .ok (.putfield 41, 3) := by decide +kernel
theorem dX5_init_91 : decode cX5_init 91 = .ok (.aload_n 0, 1) := by decide +kernel
theorem dX5_init_92 : decode cX5_init 92 = .ok (.iconst 4, 1) := by decide +kernel
theorem dX5_init_93 : decode cX5_init 93 = .ok (.newarray .int, 2) := by decide +kernel
theorem dX5_init_95 : decode cX5_init 95 = .ok (.putfield 44, 3) := by decide +kernel
theorem dX5_init_98 : decode cX5_init 98 = .ok (.aload_n 0, 1) := by decide +kernel
theorem dX5_init_99 : decode cX5_init 99 = .ok (.iconst 4, 1) := by decide +kernel
theorem dX5_init_100 : decode cX5_init 100 = .ok (.newarray .int, 2) := by decide +kernel
theorem dX5_init_102 : decode cX5_init 102 = .ok (.putfield 47, 3) := by decide +kernel
theorem dX5_init_105 : decode cX5_init 105 = .ok (.aload_n 0, 1) := by decide +kernel
theorem dX5_init_106 : decode cX5_init 106 = .ok (.iconst 4, 1) := by decide +kernel
theorem dX5_init_107 : decode cX5_init 107 = .ok (.newarray .int, 2) := by decide +kernel
theorem dX5_init_109 : decode cX5_init 109 = .ok (.putfield 50, 3) := by decide +kernel
theorem dX5_init_112 : decode cX5_init 112 = .ok (.aload_n 0, 1) := by decide +kernel
theorem dX5_init_113 : decode cX5_init 113 = .ok (.iconst 4, 1) := by decide +kernel
theorem dX5_init_114 : decode cX5_init 114 = .ok (.newarray .int, 2) := by decide +kernel
theorem dX5_init_116 : decode cX5_init 116 = .ok (.putfield 53, 3) := by decide +kernel
theorem dX5_init_119 : decode cX5_init 119 = .ok (.aload_n 0, 1) := by decide +kernel
theorem dX5_init_120 : decode cX5_init 120 = .ok (.iconst 4, 1) := by decide +kernel
theorem dX5_init_121 : decode cX5_init 121 = .ok (.newarray .int, 2) := by decide +kernel
theorem dX5_init_123 : decode cX5_init 123 = .ok (.putfield 56, 3) := by decide +kernel
theorem dX5_init_126 : decode cX5_init 126 = .ok (.aload_n 0, 1) := by decide +kernel
theorem dX5_init_127 : decode cX5_init 127 = .ok (.iconst 4, 1) := by decide +kernel
theorem dX5_init_128 : decode cX5_init 128 = .ok (.newarray .boolean, 2) := by decide +kernel
theorem dX5_init_130 : decode cX5_init 130 = .ok (.putfield 59, 3) := by decide +kernel
theorem dX5_init_133 : decode cX5_init 133 = .ok (.aload_n 0, 1) := by decide +kernel
theorem dX5_init_134 : decode cX5_init 134 = .ok (.sipush 6000, 3) := by decide +kernel
theorem dX5_init_137 : decode cX5_init 137 = .ok (.newarray .int, 2) := by decide +kernel
theorem dX5_init_139 : decode cX5_init 139 = .ok (.putfield 62, 3) := by decide +kernel
theorem dX5_init_142 : decode cX5_init 142 = .ok (.aload_n 0, 1) := by decide +kernel
theorem dX5_init_143 : decode cX5_init 143 = .ok (.sipush 6000, 3) := by decide +kernel
theorem dX5_init_146 : decode cX5_init 146 = .ok (.newarray .int, 2) := by decide +kernel
theorem dX5_init_148 : decode cX5_init 148 = .ok (.putfield 65, 3) := by decide +kernel
theorem dX5_init_151 : decode cX5_init 151 = .ok (.aload_n 0, 1) := by decide +kernel
theorem dX5_init_152 : decode cX5_init 152 = .ok (.iconst 0, 1) := by decide +kernel
theorem dX5_init_153 : decode cX5_init 153 = .ok (.putfield 68, 3) := by decide +kernel
theorem dX5_init_156 : decode cX5_init 156 = .ok (.return_, 1) := by decide +kernel
theorem dX5_isBegun_0 : decode cX5_isBegun 0 = .ok (.iconst 1, 1) := by decide +kernel
theorem dX5_isBegun_1 : decode cX5_isBegun 1 = .ok (.istore 7, 2) := by decide +kernel
theorem dX5_isBegun_3 : decode cX5_isBegun 3 = .ok (.iconst 0, 1) := by decide +kernel
theorem dX5_isBegun_4 : decode cX5_isBegun 4 = .ok (.istore 8, 2) := by decide +kernel
theorem dX5_isBegun_6 : decode cX5_isBegun 6 = .ok (.iload 8, 2) := by decide +kernel
theorem dX5_isBegun_8 : decode cX5_isBegun 8 = .ok (.iload_n 1, 1) := by decide +kernel
theorem dX5_isBegun_9 : decode cX5_isBegun 9 = .ok (.if_icmp .ge 74, 3) := by decide +kernel
theorem dX5_isBegun_83 : decode cX5_isBegun 83 = .ok (.iload 7, 2) := by decide +kernel
theorem dX5_isBegun_85 : decode cX5_isBegun 85 = .ok (.ireturn, 1) := by decide +kernel
set_option maxRecDepth 20000 in
theorem ggX5_findForm_X5_isBegun : GoodIn wsX5_findForm wsX5_isBegun := goodIn_r _ [6, 7, 8, 9, 10, 11, 12, 13, 14, 15, 16, 17, 18, 19, 20, 21, 22, 23, 24, 25, 26, 27, 28, 29, 30] (by decide +kernel) (by decide +kernel)
set_option maxRecDepth 20000 in
theorem gX5_findForm_X5_isBegun : GoodIn wsX5_findForm (wsV RX5 117 RX5 yX5_isBegun wsX5_isBegun) := goodIn_app (goodIn_of _ (by decide +kernel)) ggX5_findForm_X5_isBegun
theorem dX5_findForm_0 : decode cX5_findForm 0 = .ok (.aload_n 0, 1) := by decide +kernel
theorem dX5_findForm_1 : decode cX5_findForm 1 = .ok (.bipush 6, 2) := by decide +kernel
theorem dX5_findForm_3 : decode cX5_findForm 3 = .ok (.putfield 86, 3) := by decide +kernel
theorem dX5_findForm_6 : decode cX5_findForm 6 = .ok (.iload_n 1, 1) := by decide +kernel
theorem dX5_findForm_7 : decode cX5_findForm 7 = .ok (.iconst 3, 1) := by decide +kernel
theorem dX5_findForm_8 : decode cX5_findForm 8 = .ok (.if_icmp .lt 29, 3) := by decide +kernel
theorem dX5_findForm_37 : decode cX5_findForm 37 = .ok (.iload_n 1, 1) := by decide +kernel
theorem dX5_findForm_38 : decode cX5_findForm 38 = .ok (.iconst 4, 1) := by decide +kernel
theorem dX5_findForm_39 : decode cX5_findForm 39 = .ok (.if_icmp .lt 27, 3) := by decide +kernel
theorem dX5_findForm_66 : decode cX5_findForm 66 = .ok (.iload_n 1, 1) := by decide +kernel
theorem dX5_findForm_67 : decode cX5_findForm 67 = .ok (.iconst 4, 1) := by decide +kernel
theorem dX5_findForm_68 : decode cX5_findForm 68 = .ok (.if_icmp .lt 27, 3) := by decide +kernel
theorem dX5_findForm_95 : decode cX5_findForm 95 = .ok (.iload_n 1, 1) := by decide +kernel
theorem dX5_findForm_96 : decode cX5_findForm 96 = .ok (.iconst 2, 1) := by decide +kernel
theorem dX5_findForm_97 : decode cX5_findForm 97 = .ok (.if_icmp .lt 27, 3) := by decide +kernel
theorem dX5_findForm_124 : decode cX5_findForm 124 = .ok (.iload_n 1, 1) := by decide +kernel
theorem dX5_findForm_125 : decode cX5_findForm 125 = .ok (.iconst 2, 1) := by decide +kernel
theorem dX5_findForm_126 : decode cX5_findForm 126 = .ok (.if_icmp .lt 24, 3) := by decide +kernel
theorem dX5_findForm_150 : decode cX5_findForm 150 = .ok (.iconst 0, 1) := by decide +kernel
theorem dX5_findForm_151 : decode cX5_findForm 151 = .ok (.istore_n 3, 1) := by decide +kernel
theorem dX5_findForm_152 : decode cX5_findForm 152 = .ok (.iload_n 3, 1) := by decide +kernel
theorem dX5_findForm_153 : decode cX5_findForm 153 = .ok (.ifCond .eq 31, 3) := by decide +kernel
theorem dX5_findForm_184 : decode cX5_findForm 184 = .ok (.aload_n 0, 1) := by decide +kernel
theorem dX5_findForm_185 : decode cX5_findForm 185 = .ok (.iload_n 1, 1) := by decide +kernel
theorem dX5_findForm_186 : decode cX5_findForm 186 = .ok (.sipush 239, 3) := by decide +kernel
theorem dX5_findForm_189 : decode cX5_findForm 189 = .ok (.sipush 187, 3) := by decide +kernel
theorem dX5_findForm_192 : decode cX5_findForm 192 = .ok (.sipush 191, 3) := by decide +kernel
theorem dX5_findForm_195 : decode cX5_findForm 195 = .ok (.iconst 0, 1) := by decide +kernel
theorem dX5_findForm_196 : decode cX5_findForm 196 = .ok (.iconst 3, 1) := by decide +kernel
theorem dX5_findForm_197 : decode cX5_findForm 197 = .ok (.invokevirtual 117, 3) := by decide +kernel
theorem dX5_findForm_200 : decode cX5_findForm 200 = .ok (.ifCond .ne 54, 3) := by decide +kernel
theorem dX5_findForm_254 : decode cX5_findForm 254 = .ok (.iconst 1, 1) := by decide +kernel
theorem dX5_findForm_255 : decode cX5_findForm 255 = .ok (.goto 4, 3) := by decide +kernel
theorem dX5_findForm_259 : decode cX5_findForm 259 = .ok (.istore 4, 2) := by decide +kernel
theorem dX5_findForm_261 : decode cX5_findForm 261 = .ok (.iload_n 2, 1) := by decide +kernel
theorem dX5_findForm_262 : decode cX5_findForm 262 = .ok (.ifCond .ne 8, 3) := by decide +kernel
theorem dX5_findForm_265 : decode cX5_findForm 265 = .ok (.iload 4, 2) := by decide +kernel
theorem dX5_findForm_267 : decode cX5_findForm 267 = .ok (.ifCond .ne 8, 3) := by decide +kernel
theorem dX5_findForm_275 : decode cX5_findForm 275 = .ok (.iconst 0, 1) := by decide +kernel
theorem dX5_findForm_276 : decode cX5_findForm 276 = .ok (.ireturn, 1) := by decide +kernel
set_option maxRecDepth 20000 in
theorem ggX5_findAll_X5_findForm : GoodIn wsX5_findAll wsX5_findForm := goodIn_r _ [21, 13, 22, 23, 24, 20, 25, 2, 78, 79, 80, 81, 82, 83, 84, 85, 86, 87, 88, 89, 90, 91, 92, 93, 94, 95, 96, 97, 98, 99, 100] (by decide +kernel) (by decide +kernel)
set_option maxRecDepth 20000 in
theorem gX5_findAll_X5_findForm : GoodIn wsX5_findAll (wsV RX5 121 RX5 yX5_findForm wsX5_findForm) := goodIn_app (goodIn_of _ (by decide +kernel)) ggX5_findAll_X5_findForm
theorem dX5_findAll_0 : decode cX5_findAll 0 = .ok (.aload_n 0, 1) := by decide +kernel
theorem dX5_findAll_1 : decode cX5_findAll 1 = .ok (.getfield 29, 3) := by decide +kernel
theorem dX5_findAll_4 : decode cX5_findAll 4 = .ok (.iload_n 1, 1) := by decide +kernel
theorem dX5_findAll_5 : decode cX5_findAll 5 = .ok (.iaload, 1) := by decide +kernel
theorem dX5_findAll_6 : decode cX5_findAll 6 = .ok (.istore_n 2, 1) := by decide +kernel
theorem dX5_findAll_7 : decode cX5_findAll 7 = .ok (.iconst 0, 1) := by decide +kernel
theorem dX5_findAll_8 : decode cX5_findAll 8 = .ok (.istore_n 3, 1) := by decide +kernel
theorem dX5_findAll_9 : decode cX5_findAll 9 = .ok (.iload_n 3, 1) := by decide +kernel
theorem dX5_findAll_10 : decode cX5_findAll 10 = .ok (.iload_n 2, 1) := by decide +kernel
theorem dX5_findAll_11 : decode cX5_findAll 11 = .ok (.if_icmp .ge 27, 3) := by decide +kernel
theorem dX5_findAll_38 : decode cX5_findAll 38 = .ok (.aload_n 0, 1) := by decide +kernel
theorem dX5_findAll_39 : decode cX5_findAll 39 = .ok (.getfield 44, 3) := by decide +kernel
theorem dX5_findAll_42 : decode cX5_findAll 42 = .ok (.iload_n 1, 1) := by decide +kernel
theorem dX5_findAll_43 : decode cX5_findAll 43 = .ok (.iconst 0, 1) := by decide +kernel
theorem dX5_findAll_44 : decode cX5_findAll 44 = .ok (.iastore, 1) := by decide +kernel
theorem dX5_findAll_45 : decode cX5_findAll 45 = .ok (.aload_n 0, 1) := by decide +kernel
theorem dX5_findAll_46 : decode cX5_findAll 46 = .ok (.getfield 47, 3) := by decide +kernel
theorem dX5_findAll_49 : decode cX5_findAll 49 = .ok (.iload_n 1, 1) := by decide +kernel
theorem dX5_findAll_50 : decode cX5_findAll 50 = .ok (.iconst 0, 1) := by decide +kernel
theorem dX5_findAll_51 : decode cX5_findAll 51 = .ok (.iastore, 1) := by decide +kernel
theorem dX5_findAll_52 : decode cX5_findAll 52 = .ok (.aload_n 0, 1) := by decide +kernel
theorem dX5_findAll_53 : decode cX5_findAll 53 = .ok (.getfield 53, 3) := by decide +kernel
theorem dX5_findAll_56 : decode cX5_findAll 56 = .ok (.iload_n 1, 1) := by decide +kernel
theorem dX5_findAll_57 : decode cX5_findAll 57 = .ok (.iconst (-1), 1) := by decide +kernel
theorem dX5_findAll_58 : decode cX5_findAll 58 = .ok (.iastore, 1) := by decide +kernel
theorem dX5_findAll_59 : decode cX5_findAll 59 = .ok (.aload_n 0, 1) := by decide +kernel
theorem dX5_findAll_60 : decode cX5_findAll 60 = .ok (.getfield 56, 3) := by decide +kernel
theorem dX5_findAll_63 : decode cX5_findAll 63 = .ok (.iload_n 1, 1) := by decide +kernel
theorem dX5_findAll_64 : decode cX5_findAll 64 = .ok (.iconst (-1), 1) := by decide +kernel
theorem dX5_findAll_65 : decode cX5_findAll 65 = .ok (.iastore, 1) := by decide +kernel
theorem dX5_findAll_66 : decode cX5_findAll 66 = .ok (.aload_n 0, 1) := by decide +kernel
theorem dX5_findAll_67 : decode cX5_findAll 67 = .ok (.getfield 59, 3) := by decide +kernel
theorem dX5_findAll_70 : decode cX5_findAll 70 = .ok (.iload_n 1, 1) := by decide +kernel
theorem dX5_findAll_71 : decode cX5_findAll 71 = .ok (.iconst 0, 1) := by decide +kernel
theorem dX5_findAll_72 : decode cX5_findAll 72 = .ok (.bastore, 1) := by decide +kernel
theorem dX5_findAll_73 : decode cX5_findAll 73 = .ok (.aload_n 0, 1) := by decide +kernel
theorem dX5_findAll_74 : decode cX5_findAll 74 = .ok (.getfield 50, 3) := by decide +kernel
theorem dX5_findAll_77 : decode cX5_findAll 77 = .ok (.iload_n 1, 1) := by decide +kernel
theorem dX5_findAll_78 : decode cX5_findAll 78 = .ok (.iload_n 2, 1) := by decide +kernel
theorem dX5_findAll_79 : decode cX5_findAll 79 = .ok (.iastore, 1) := by decide +kernel
theorem dX5_findAll_80 : decode cX5_findAll 80 = .ok (.aload_n 0, 1) := by decide +kernel
theorem dX5_findAll_81 : decode cX5_findAll 81 = .ok (.getfield 20, 3) := by decide +kernel
theorem dX5_findAll_84 : decode cX5_findAll 84 = .ok (.iload_n 1, 1) := by decide +kernel
theorem dX5_findAll_85 : decode cX5_findAll 85 = .ok (.aload_n 0, 1) := by decide +kernel
theorem dX5_findAll_86 : decode cX5_findAll 86 = .ok (.getfield 16, 3) := by decide +kernel
theorem dX5_findAll_89 : decode cX5_findAll 89 = .ok (.iload_n 1, 1) := by decide +kernel
theorem dX5_findAll_90 : decode cX5_findAll 90 = .ok (.iaload, 1) := by decide +kernel
theorem dX5_findAll_91 : decode cX5_findAll 91 = .ok (.iastore, 1) := by decide +kernel
theorem dX5_findAll_92 : decode cX5_findAll 92 = .ok (.iconst 0, 1) := by decide +kernel
theorem dX5_findAll_93 : decode cX5_findAll 93 = .ok (.istore_n 3, 1) := by decide +kernel
theorem dX5_findAll_94 : decode cX5_findAll 94 = .ok (.aload_n 0, 1) := by decide +kernel
theorem dX5_findAll_95 : decode cX5_findAll 95 = .ok (.getfield 16, 3) := by decide +kernel
theorem dX5_findAll_98 : decode cX5_findAll 98 = .ok (.iload_n 1, 1) := by decide +kernel
theorem dX5_findAll_99 : decode cX5_findAll 99 = .ok (.iaload, 1) := by decide +kernel
theorem dX5_findAll_100 : decode cX5_findAll 100 = .ok (.bipush 6, 2) := by decide +kernel
theorem dX5_findAll_102 : decode cX5_findAll 102 = .ok (.if_icmp .ne 40, 3) := by decide +kernel
theorem dX5_findAll_105 : decode cX5_findAll 105 = .ok (.aload_n 0, 1) := by decide +kernel
theorem dX5_findAll_106 : decode cX5_findAll 106 = .ok (.iload_n 2, 1) := by decide +kernel
theorem dX5_findAll_107 : decode cX5_findAll 107 = .ok (.aload_n 0, 1) := by decide +kernel
theorem dX5_findAll_108 : decode cX5_findAll 108 = .ok (.getfield 13, 3) := by decide +kernel
theorem dX5_findAll_111 : decode cX5_findAll 111 = .ok (.iload_n 1, 1) := by decide +kernel
theorem dX5_findAll_112 : decode cX5_findAll 112 = .ok (.baload, 1) := by decide +kernel
theorem dX5_findAll_113 : decode cX5_findAll 113 = .ok (.invokevirtual 121, 3) := by decide +kernel
theorem dX5_findAll_116 : decode cX5_findAll 116 = .ok (.istore_n 3, 1) := by decide +kernel
theorem dX5_findAll_117 : decode cX5_findAll 117 = .ok (.aload_n 0, 1) := by decide +kernel
theorem dX5_findAll_118 : decode cX5_findAll 118 = .ok (.getfield 20, 3) := by decide +kernel
theorem dX5_findAll_121 : decode cX5_findAll 121 = .ok (.iload_n 1, 1) := by decide +kernel
theorem dX5_findAll_122 : decode cX5_findAll 122 = .ok (.aload_n 0, 1) := by decide +kernel
theorem dX5_findAll_123 : decode cX5_findAll 123 = .ok (.getfield 86, 3) := by decide +kernel
theorem dX5_findAll_126 : decode cX5_findAll 126 = .ok (.iastore, 1) := by decide +kernel
theorem dX5_findAll_127 : decode cX5_findAll 127 = .ok (.aload_n 0, 1) := by decide +kernel
theorem dX5_findAll_128 : decode cX5_findAll 128 = .ok (.getfield 59, 3) := by decide +kernel
theorem dX5_findAll_131 : decode cX5_findAll 131 = .ok (.iload_n 1, 1) := by decide +kernel
theorem dX5_findAll_132 : decode cX5_findAll 132 = .ok (.iload_n 3, 1) := by decide +kernel
theorem dX5_findAll_133 : decode cX5_findAll 133 = .ok (.ifCond .le 7, 3) := by decide +kernel
theorem dX5_findAll_140 : decode cX5_findAll 140 = .ok (.iconst 0, 1) := by decide +kernel
theorem dX5_findAll_141 : decode cX5_findAll 141 = .ok (.bastore, 1) := by decide +kernel
theorem dX5_findAll_142 : decode cX5_findAll 142 = .ok (.aload_n 0, 1) := by decide +kernel
theorem dX5_findAll_143 : decode cX5_findAll 143 = .ok (.getfield 20, 3) := by decide +kernel
theorem dX5_findAll_146 : decode cX5_findAll 146 = .ok (.iload_n 1, 1) := by decide +kernel
theorem dX5_findAll_147 : decode cX5_findAll 147 = .ok (.iaload, 1) := by decide +kernel
theorem dX5_findAll_148 : decode cX5_findAll 148 = .ok (.bipush 6, 2) := by decide +kernel
theorem dX5_findAll_150 : decode cX5_findAll 150 = .ok (.if_icmp .ne 4, 3) := by decide +kernel
theorem dX5_findAll_153 : decode cX5_findAll 153 = .ok (.return_, 1) := by decide +kernel
theorem dX5_findAll_154 : decode cX5_findAll 154 = .ok (.iconst 1, 1) := by decide +kernel
theorem dX5_findAll_155 : decode cX5_findAll 155 = .ok (.istore 4, 2) := by decide +kernel
theorem dX5_findAll_157 : decode cX5_findAll 157 = .ok (.iload 4, 2) := by decide +kernel
theorem dX5_findAll_159 : decode cX5_findAll 159 = .ok (.ifCond .eq 168, 3) := by decide +kernel
theorem dX5_findAll_162 : decode cX5_findAll 162 = .ok (.iload_n 3, 1) := by decide +kernel
theorem dX5_findAll_163 : decode cX5_findAll 163 = .ok (.iload_n 2, 1) := by decide +kernel
theorem dX5_findAll_164 : decode cX5_findAll 164 = .ok (.if_icmp .ge 163, 3) := by decide +kernel
theorem dX5_findAll_327 : decode cX5_findAll 327 = .ok (.aload_n 0, 1) := by decide +kernel
theorem dX5_findAll_328 : decode cX5_findAll 328 = .ok (.getfield 50, 3) := by decide +kernel
theorem dX5_findAll_331 : decode cX5_findAll 331 = .ok (.iload_n 1, 1) := by decide +kernel
theorem dX5_findAll_332 : decode cX5_findAll 332 = .ok (.iload_n 2, 1) := by decide +kernel
theorem dX5_findAll_333 : decode cX5_findAll 333 = .ok (.iload_n 3, 1) := by decide +kernel
theorem dX5_findAll_334 : decode cX5_findAll 334 = .ok (.isub, 1) := by decide +kernel
theorem dX5_findAll_335 : decode cX5_findAll 335 = .ok (.iastore, 1) := by decide +kernel
theorem dX5_findAll_336 : decode cX5_findAll 336 = .ok (.return_, 1) := by decide +kernel
set_option maxRecDepth 20000 in
theorem ggX5_open_X5_isStream : GoodIn wsX5_open wsX5_isStream := goodIn_r _ [9] (by decide +kernel) (by decide +kernel)
set_option maxRecDepth 20000 in
theorem gX5_open_X5_isStream : GoodIn wsX5_open (va_wsS RX5 134 yX5_isStream wsX5_isStream) := goodIn_app (goodIn_of _ (by decide +kernel)) ggX5_open_X5_isStream
set_option maxRecDepth 20000 in
theorem ggX5_open_X5_findAll : GoodIn wsX5_open wsX5_findAll := goodIn_r _ [13, 5, 14, 15, 16, 17, 18, 19, 20, 21, 22, 3, 2, 23, 24, 4, 25, 26, 27, 28, 8, 29, 30, 31, 32, 33, 34, 35, 36, 37, 38, 39, 40, 41, 42, 43, 44, 45, 46, 47, 48, 49, 50, 51, 52, 53, 54, 55, 56, 57, 58, 59, 60, 61, 62, 63, 64, 65, 66, 67, 68, 69, 70, 71, 72, 73, 74, 75, 76, 77, 78, 79, 80, 81, 82, 83, 84, 85, 86, 87, 88, 89, 90, 91, 92, 93, 94, 95, 96, 97, 98, 99, 100, 101, 102, 103, 104, 105, 106, 107, 108] (by decide +kernel) (by decide +kernel)
set_option maxRecDepth 20000 in
theorem gX5_open_X5_findAll : GoodIn wsX5_open (wsV RX5 138 RX5 yX5_findAll wsX5_findAll) := goodIn_app (goodIn_of _ (by decide +kernel)) ggX5_open_X5_findAll
theorem dX5_open_0 : decode cX5_open 0 = .ok (.iload_n 1, 1) := by decide +kernel
theorem dX5_open_1 : decode cX5_open 1 = .ok (.invokestatic 134, 3) := by decide +kernel
theorem dX5_open_4 : decode cX5_open 4 = .ok (.ifCond .eq 22, 3) := by decide +kernel
theorem dX5_open_7 : decode cX5_open 7 = .ok (.iload_n 2, 1) := by decide +kernel
theorem dX5_open_8 : decode cX5_open 8 = .ok (.ifCond .lt 18, 3) := by decide +kernel
theorem dX5_open_11 : decode cX5_open 11 = .ok (.iload_n 2, 1) := by decide +kernel
theorem dX5_open_12 : decode cX5_open 12 = .ok (.bipush 6, 2) := by decide +kernel
theorem dX5_open_14 : decode cX5_open 14 = .ok (.if_icmp .gt 12, 3) := by decide +kernel
theorem dX5_open_17 : decode cX5_open 17 = .ok (.iload_n 3, 1) := by decide +kernel
theorem dX5_open_18 : decode cX5_open 18 = .ok (.ifCond .lt 8, 3) := by decide +kernel
theorem dX5_open_21 : decode cX5_open 21 = .ok (.iload_n 3, 1) := by decide +kernel
theorem dX5_open_22 : decode cX5_open 22 = .ok (.iconst 2, 1) := by decide +kernel
theorem dX5_open_23 : decode cX5_open 23 = .ok (.if_icmp .le 5, 3) := by decide +kernel
theorem dX5_open_26 : decode cX5_open 26 = .ok (.iconst 0, 1) := by decide +kernel
theorem dX5_open_27 : decode cX5_open 27 = .ok (.ireturn, 1) := by decide +kernel
theorem dX5_open_28 : decode cX5_open 28 = .ok (.aload_n 0, 1) := by decide +kernel
theorem dX5_open_29 : decode cX5_open 29 = .ok (.getfield 7, 3) := by decide +kernel
theorem dX5_open_32 : decode cX5_open 32 = .ok (.iload_n 1, 1) := by decide +kernel
theorem dX5_open_33 : decode cX5_open 33 = .ok (.iconst 1, 1) := by decide +kernel
theorem dX5_open_34 : decode cX5_open 34 = .ok (.bastore, 1) := by decide +kernel
theorem dX5_open_35 : decode cX5_open 35 = .ok (.aload_n 0, 1) := by decide +kernel
theorem dX5_open_36 : decode cX5_open 36 = .ok (.getfield 13, 3) := by decide +kernel
theorem dX5_open_39 : decode cX5_open 39 = .ok (.iload_n 1, 1) := by decide +kernel
theorem dX5_open_40 : decode cX5_open 40 = .ok (.iconst 0, 1) := by decide +kernel
theorem dX5_open_41 : decode cX5_open 41 = .ok (.bastore, 1) := by decide +kernel
theorem dX5_open_42 : decode cX5_open 42 = .ok (.aload_n 0, 1) := by decide +kernel
theorem dX5_open_43 : decode cX5_open 43 = .ok (.getfield 16, 3) := by decide +kernel
theorem dX5_open_46 : decode cX5_open 46 = .ok (.iload_n 1, 1) := by decide +kernel
theorem dX5_open_47 : decode cX5_open 47 = .ok (.iload_n 2, 1) := by decide +kernel
theorem dX5_open_48 : decode cX5_open 48 = .ok (.iastore, 1) := by decide +kernel
theorem dX5_open_49 : decode cX5_open 49 = .ok (.aload_n 0, 1) := by decide +kernel
theorem dX5_open_50 : decode cX5_open 50 = .ok (.getfield 23, 3) := by decide +kernel
theorem dX5_open_53 : decode cX5_open 53 = .ok (.iload_n 1, 1) := by decide +kernel
theorem dX5_open_54 : decode cX5_open 54 = .ok (.iload_n 3, 1) := by decide +kernel
theorem dX5_open_55 : decode cX5_open 55 = .ok (.iastore, 1) := by decide +kernel
theorem dX5_open_56 : decode cX5_open 56 = .ok (.aload_n 0, 1) := by decide +kernel
theorem dX5_open_57 : decode cX5_open 57 = .ok (.getfield 29, 3) := by decide +kernel
theorem dX5_open_60 : decode cX5_open 60 = .ok (.iload_n 1, 1) := by decide +kernel
theorem dX5_open_61 : decode cX5_open 61 = .ok (.iconst 0, 1) := by decide +kernel
theorem dX5_open_62 : decode cX5_open 62 = .ok (.iastore, 1) := by decide +kernel
theorem dX5_open_63 : decode cX5_open 63 = .ok (.aload_n 0, 1) := by decide +kernel
theorem dX5_open_64 : decode cX5_open 64 = .ok (.iload_n 1, 1) := by decide +kernel
theorem dX5_open_65 : decode cX5_open 65 = .ok (.invokevirtual 138, 3) := by decide +kernel
theorem dX5_open_68 : decode cX5_open 68 = .ok (.iconst 1, 1) := by decide +kernel
theorem dX5_open_69 : decode cX5_open 69 = .ok (.ireturn, 1) := by decide +kernel
end
section
set_option maxHeartbeats 4000000 in
set_option maxRecDepth 100000 in
theorem kX2_init (l : Launch) (dC : Nat → ClassId) (dI : Nat → Nat → Nat) (h4 : Nat) (sz : Nat) : Met l yX2_init wsX2_init ({ frames := 1, cells := 0, slots := 0, locals := 12 } : Room) (va_Pc [.ref h4] (fun U => U.heap.size = sz ∧ va_P (dC, dI) vwCl [(h4, .inr (1, [.int 0, .int 0, .int 0]))] U.heap ∧ va_K (dC, dI) vwCl [] U ∧ va_D (fun _ => True) [(h4, .inr (1, [.int 0, .int 0, .int 0]))])) (va_Qv (fun (_ : Unit) => True) (fun _ t => va_P (dC, dI) vwCl [(h4, .inr (1, [.int 0, .int 0, .int 0]))] t.heap ∧ va_K (dC, dI) vwCl [] t ∧ va_D (va_A [(h4, .inr (1, [.int 0, .int 0, .int 0]))] sz) [(h4, .inr (1, [.int 0, .int 0, .int 0]))]) (va_A [(h4, .inr (1, [.int 0, .int 0, .int 0]))] sz)) 0 0 (va_A [(h4, .inr (1, [.int 0, .int 0, .int 0]))] sz) := by
  refine Met.ofW (cc := cX2_init) (maxL := 1) (ret := none) (by decide) rfl ?_
  intro p e s m args below meth c s₁ B hml hv
  obtain ⟨rfl, hsz, hP, hK, hD0⟩ := hv
  have hx := B.exec
  have hb := B.bytes
  have hr := B.returns
  have hts := atoms_spec (ws := wsX2_init) B.pre
  have hown : s.vm.findClass RX2 = some m.cls := findClass_of_methodNamed B.named
  have hlocks := B.notSynchronized
  have hin : meth.name = "<init>" := (name_of_methodNamed B.named B.method).1
  subst hsz
  have hD := hD0.self (sz := s.heap.size)
  generalize hAe : va_A [(h4, .inr (1, [.int 0, .int 0, .int 0]))] s.heap.size = A at hD ⊢
  have hA : ∀ q : Nat, s.heap.size ≤ q → A q := fun q h => by rw [← hAe]; exact Or.inr h
  have hS : va_S A s.heap s.heap [] := va_S.rf
  have hl := lv_entry ([.ref h4]) (n := 1) (Nat.le_of_ble_eq_true rfl)
  rw [lg_entry_eq]
  generalize (lg_sl ([.ref h4]) ++ List.replicate (1 - (lg_sl ([.ref h4])).length) Slot.unset).toArray = ls at hl ⊢
  have hl : lv_has ls 1 [(0, .ref h4)] := hl
  refine lv_aload_n hx hb dX2_init_0 rfl (lv_at hl 0 rfl) ?_
  refine W.objInit hx hb hown (hts (.methodLink RX2 3 objectInit) (by decide +kernel)) (hts (.instanceMethod objectInit) (by decide +kernel)) (hts (.code objectInit ⟨#[0xb1]⟩ 1 none) (by decide +kernel)) rfl (by rw [hml]; exact hl.1) rfl dX2_init_1 (Nat.le_of_ble_eq_true rfl) (Nat.le_of_ble_eq_true rfl) ?_
  refine W.eq (g2 := F0 m 4 ls []) rfl ?_
  have hP9 := hP.sub (ws' := [(h4, .inr (1, [.int 0, .int 0, .int 0]))]) [0] rfl
  have hD9 := hD.sub (ws' := [(h4, .inr (1, [.int 0, .int 0, .int 0]))]) [0] (by decide) rfl
  have hK9 := hK.sub (tys' := []) [] rfl
  exact W.vret hx hb hr (fun t ht hW => ⟨⟨(), rfl, trivial, by rw [ht]; exact hP9, va_K.moved hW.alike hK9, hD9⟩, hS.F ht⟩) hS.2.2 dX2_init_4
end
section
set_option maxHeartbeats 4000000 in
set_option maxRecDepth 100000 in
theorem kX1_init (l : Launch) (dC : Nat → ClassId) (dI : Nat → Nat → Nat) (h2 : Nat) (sz : Nat) : Met l yX1_init wsX1_init ({ frames := 1, cells := 1, slots := 6000, locals := 12 } : Room) (va_Pc [.ref h2] (fun U => U.heap.size = sz ∧ va_P (dC, dI) vwCl [(h2, .inr (0, [.null, .int 0]))] U.heap ∧ va_K (dC, dI) vwCl [] U ∧ va_D (fun _ => True) [(h2, .inr (0, [.null, .int 0]))])) (va_Qv (fun (_ : Unit) => True) (fun _ t => ∃ (h3 : Nat) (kI : ClassId), va_P (dC, dI) vwCl [(h2, .inr (0, [.ref h3, .int 0])), (h3, .inl (kI, 6000, .inl (fun _ => 0)))] t.heap ∧ va_K (dC, dI) vwCl [(kI, .int)] t ∧ va_D (va_A [(h2, .inr (0, [.null, .int 0]))] sz) [(h2, .inr (0, [.ref h3, .int 0])), (h3, .inl (kI, 6000, .inl (fun _ => 0)))]) (va_A [(h2, .inr (0, [.null, .int 0]))] sz)) 1 6000 (va_A [(h2, .inr (0, [.null, .int 0]))] sz) := by
  refine Met.ofW (cc := cX1_init) (maxL := 1) (ret := none) (by decide) rfl ?_
  intro p e s m args below meth c s₁ B hml hv
  obtain ⟨rfl, hsz, hP, hK, hD0⟩ := hv
  have hx := B.exec
  have hb := B.bytes
  have hr := B.returns
  have hts := atoms_spec (ws := wsX1_init) B.pre
  have hown : s.vm.findClass RX1 = some m.cls := findClass_of_methodNamed B.named
  have hlocks := B.notSynchronized
  have hin : meth.name = "<init>" := (name_of_methodNamed B.named B.method).1
  subst hsz
  have hD := hD0.self (sz := s.heap.size)
  generalize hAe : va_A [(h2, .inr (0, [.null, .int 0]))] s.heap.size = A at hD ⊢
  have hA : ∀ q : Nat, s.heap.size ≤ q → A q := fun q h => by rw [← hAe]; exact Or.inr h
  have hS : va_S A s.heap s.heap [] := va_S.rf
  have hl := lv_entry ([.ref h2]) (n := 1) (Nat.le_of_ble_eq_true rfl)
  rw [lg_entry_eq]
  generalize (lg_sl ([.ref h2]) ++ List.replicate (1 - (lg_sl ([.ref h2])).length) Slot.unset).toArray = ls at hl ⊢
  have hl : lv_has ls 1 [(0, .ref h2)] := hl
  refine lv_aload_n hx hb dX1_init_0 rfl (lv_at hl 0 rfl) ?_
  refine W.objInit hx hb hown (hts (.methodLink RX1 3 objectInit) (by decide +kernel)) (hts (.instanceMethod objectInit) (by decide +kernel)) (hts (.code objectInit ⟨#[0xb1]⟩ 1 none) (by decide +kernel)) rfl (by rw [hml]; exact hl.1) rfl dX1_init_1 (Nat.le_of_ble_eq_true rfl) (Nat.le_of_ble_eq_true rfl) ?_
  refine W.eq (g2 := F0 m 4 ls []) rfl ?_
  refine lv_aload_n hx hb dX1_init_4 rfl (lv_at hl 0 rfl) ?_
  refine lv_sipush (v := 6000) hx hb dX1_init_5 (by decide +kernel) ?_
  refine va_newa (atype := .int) (ty := .int) (a0 := (6000, .inl (fun _ => 0))) (N' := 6000) hx hb (hts (.arrayClass .int) (by decide +kernel)) rfl hK hP hD hS hA (fun cA => vp_cell_i cA 6000 (fun _ => 0)) (by decide +kernel) (by decide +kernel) (by decide +kernel) (Nat.le_of_ble_eq_true rfl) (Nat.le_of_ble_eq_true rfl) dX1_init_8 (fun q_1 k_2 H hK hP hD hS => ?_)
  have hP : va_P (dC, dI) vwCl [(h2, .inr (0, [.null, .int 0])), (q_1, .inl (k_2, 6000, .inl (fun _ => 0)))] H := hP
  have hD : va_D A [(h2, .inr (0, [.null, .int 0])), (q_1, .inl (k_2, 6000, .inl (fun _ => 0)))] := hD
  have hK : va_K (dC, dI) vwCl [(k_2, .int)] s := hK
  refine W.widen (k := 1) (n := 6000) (by omega) (by omega) ?_
  refine va_putF (D := (dC, dI)) (ci := 0) (v := .ref q_1) (ty := .array (.int)) (C := RX1) (T := TX1) (N := 2) hx hb hts (by decide +kernel) tyX1 tyX1_ok nmX1 hown hK hP hD hS 0 rfl rfl 0 (by decide) (hts (.fieldLink RX1 9 "SignForms$OutRow" "bytes" "[I") (by decide +kernel)) (fun _ h9 => h9) rfl hin rfl (by decide +kernel) rfl rfl (Nat.le_of_ble_eq_true rfl) dX1_init_10 (fun H locs hP hD hS => ?_)
  have hP : va_P (dC, dI) vwCl [(h2, .inr (0, [.ref q_1, .int 0])), (q_1, .inl (k_2, 6000, .inl (fun _ => 0)))] H := hP
  have hD : va_D A [(h2, .inr (0, [.ref q_1, .int 0])), (q_1, .inl (k_2, 6000, .inl (fun _ => 0)))] := hD
  refine lv_aload_n hx hb dX1_init_13 rfl (lv_at hl 0 rfl) ?_
  refine lv_iconst (v := 0) hx hb dX1_init_14 (by decide) ?_
  refine va_put (D := (dC, dI)) (ci := 0) (v := .int 0) (ty := .int) (C := RX1) (T := TX1) (N := 2) hx hb hts (by decide +kernel) tyX1 tyX1_ok nmX1 hown hK hP hD hS 0 rfl rfl 1 (by decide) (hts (.fieldLink RX1 15 "SignForms$OutRow" "count" "I") (by decide +kernel)) (fun _ h9 => h9) rfl (by decide +kernel) rfl rfl (Nat.le_of_ble_eq_true rfl) dX1_init_15 (fun H locs hP hD hS => ?_)
  have hP : va_P (dC, dI) vwCl [(h2, .inr (0, [.ref q_1, .int 0])), (q_1, .inl (k_2, 6000, .inl (fun _ => 0)))] H := hP
  have hD : va_D A [(h2, .inr (0, [.ref q_1, .int 0])), (q_1, .inl (k_2, 6000, .inl (fun _ => 0)))] := hD
  have hP9 := hP.sub (ws' := [(h2, .inr (0, [.ref q_1, .int 0])), (q_1, .inl (k_2, 6000, .inl (fun _ => 0)))]) [0, 1] rfl
  have hD9 := hD.sub (ws' := [(h2, .inr (0, [.ref q_1, .int 0])), (q_1, .inl (k_2, 6000, .inl (fun _ => 0)))]) [0, 1] (by decide) rfl
  have hK9 := hK.sub (tys' := [(k_2, .int)]) [0] rfl
  refine W.widen (k := 1) (n := 6000) (by omega) (by omega) ?_
  exact W.vret hx hb hr (fun t ht hW => ⟨⟨(), rfl, trivial, q_1, k_2, by rw [ht]; exact hP9, va_K.moved hW.alike hK9, hD9⟩, hS.F ht⟩) hS.2.2 dX1_init_18
end
section
set_option maxHeartbeats 4000000 in
set_option maxRecDepth 100000 in
theorem kX3_init (l : Launch) (dC : Nat → ClassId) (dI : Nat → Nat → Nat) (o0 : Nat) (sz : Nat) : Met l yX3_init wsX3_init ({ frames := 2, cells := 6, slots := 10003, locals := 32 } : Room) (va_Pc [.ref o0] (fun U => U.heap.size = sz ∧ va_P (dC, dI) vwCl [(o0, .inr (2, [.null, .null, .null, .null, .null, .null, .int 0, .int 0, .int 0, .int 0, .int 0, .int 0, .int 0, .int 0, .int 0, .int 0]))] U.heap ∧ va_K (dC, dI) vwCl [] U ∧ va_D (fun _ => True) [(o0, .inr (2, [.null, .null, .null, .null, .null, .null, .int 0, .int 0, .int 0, .int 0, .int 0, .int 0, .int 0, .int 0, .int 0, .int 0]))] ∧ va_Nw (.methodLinkNest RX3 29 yX2_init "SignForms") U)) (va_Qv (fun (_ : Unit) => True) (fun _ t => ∃ (o1 o2 o3 o4 o5 o6 : Nat), va_P (dC, dI) vwCl [(o0, .inr (2, [.ref o1, .ref o2, .ref o3, .ref o4, .ref o5, .ref o6, .int 0, .int 0, .int 0, .int 0, .int 0, .int 0, .int 0, .int 0, .int 0, .int 0]))] t.heap ∧ va_K (dC, dI) vwCl [] t ∧ va_D (va_A [(o0, .inr (2, [.null, .null, .null, .null, .null, .null, .int 0, .int 0, .int 0, .int 0, .int 0, .int 0, .int 0, .int 0, .int 0, .int 0]))] sz) [(o0, .inr (2, [.ref o1, .ref o2, .ref o3, .ref o4, .ref o5, .ref o6, .int 0, .int 0, .int 0, .int 0, .int 0, .int 0, .int 0, .int 0, .int 0, .int 0]))]) (va_A [(o0, .inr (2, [.null, .null, .null, .null, .null, .null, .int 0, .int 0, .int 0, .int 0, .int 0, .int 0, .int 0, .int 0, .int 0, .int 0]))] sz)) 6 10003 (va_A [(o0, .inr (2, [.null, .null, .null, .null, .null, .null, .int 0, .int 0, .int 0, .int 0, .int 0, .int 0, .int 0, .int 0, .int 0, .int 0]))] sz) := by
  refine Met.ofW (cc := cX3_init) (maxL := 1) (ret := none) (by decide) rfl ?_
  intro p e s m args below meth c s₁ B hml hv
  obtain ⟨rfl, hsz, hP, hK, hD0, hN⟩ := hv
  have hx := B.exec
  have hb := B.bytes
  have hr := B.returns
  have hts := atoms_spec (ws := wsX3_init) B.pre
  have hown : s.vm.findClass RX3 = some m.cls := findClass_of_methodNamed B.named
  have hlocks := B.notSynchronized
  have hin : meth.name = "<init>" := (name_of_methodNamed B.named B.method).1
  subst hsz
  have hD := hD0.self (sz := s.heap.size)
  generalize hAe : va_A [(o0, .inr (2, [.null, .null, .null, .null, .null, .null, .int 0, .int 0, .int 0, .int 0, .int 0, .int 0, .int 0, .int 0, .int 0, .int 0]))] s.heap.size = A at hD ⊢
  have hA : ∀ q : Nat, s.heap.size ≤ q → A q := fun q h => by rw [← hAe]; exact Or.inr h
  have hS : va_S A s.heap s.heap [] := va_S.rf
  have hl := lv_entry ([.ref o0]) (n := 1) (Nat.le_of_ble_eq_true rfl)
  rw [lg_entry_eq]
  generalize (lg_sl ([.ref o0]) ++ List.replicate (1 - (lg_sl ([.ref o0])).length) Slot.unset).toArray = ls at hl ⊢
  have hl : lv_has ls 1 [(0, .ref o0)] := hl
  refine lv_aload_n hx hb dX3_init_0 rfl (lv_at hl 0 rfl) ?_
  refine W.objInit hx hb hown (hts (.methodLink RX3 3 objectInit) (by decide +kernel)) (hts (.instanceMethod objectInit) (by decide +kernel)) (hts (.code objectInit ⟨#[0xb1]⟩ 1 none) (by decide +kernel)) rfl (by rw [hml]; exact hl.1) rfl dX3_init_1 (Nat.le_of_ble_eq_true rfl) (Nat.le_of_ble_eq_true rfl) ?_
  refine W.eq (g2 := F0 m 4 ls []) rfl ?_
  refine lv_aload_n hx hb dX3_init_4 rfl (lv_at hl 0 rfl) ?_
  refine lv_sipush (v := 2000) hx hb dX3_init_5 (by decide +kernel) ?_
  refine va_newa (atype := .int) (ty := .int) (a0 := (2000, .inl (fun _ => 0))) (N' := 2000) hx hb (hts (.arrayClass .int) (by decide +kernel)) rfl hK hP hD hS hA (fun cA => vp_cell_i cA 2000 (fun _ => 0)) (by decide +kernel) (by decide +kernel) (by decide +kernel) (Nat.le_of_ble_eq_true rfl) (Nat.le_of_ble_eq_true rfl) dX3_init_8 (fun q_1 k_2 H hK hP hD hS => ?_)
  have hP : va_P (dC, dI) vwCl [(o0, .inr (2, [.null, .null, .null, .null, .null, .null, .int 0, .int 0, .int 0, .int 0, .int 0, .int 0, .int 0, .int 0, .int 0, .int 0])), (q_1, .inl (k_2, 2000, .inl (fun _ => 0)))] H := hP
  have hD : va_D A [(o0, .inr (2, [.null, .null, .null, .null, .null, .null, .int 0, .int 0, .int 0, .int 0, .int 0, .int 0, .int 0, .int 0, .int 0, .int 0])), (q_1, .inl (k_2, 2000, .inl (fun _ => 0)))] := hD
  have hK : va_K (dC, dI) vwCl [(k_2, .int)] s := hK
  refine W.widen (k := 1) (n := 2000) (by omega) (by omega) ?_
  refine va_putF (D := (dC, dI)) (ci := 2) (v := .ref q_1) (ty := .array (.int)) (C := RX3) (T := TX3) (N := 16) hx hb hts (by decide +kernel) tyX3 tyX3_ok nmX3 hown hK hP hD hS 0 rfl rfl 0 (by decide) (hts (.fieldLink RX3 9 "SignForms$Stream" "bytes" "[I") (by decide +kernel)) (fun _ h9 => h9) rfl hin rfl (by decide +kernel) rfl rfl (Nat.le_of_ble_eq_true rfl) dX3_init_10 (fun H locs hP hD hS => ?_)
  have hP : va_P (dC, dI) vwCl [(o0, .inr (2, [.ref q_1, .null, .null, .null, .null, .null, .int 0, .int 0, .int 0, .int 0, .int 0, .int 0, .int 0, .int 0, .int 0, .int 0])), (q_1, .inl (k_2, 2000, .inl (fun _ => 0)))] H := hP
  have hD : va_D A [(o0, .inr (2, [.ref q_1, .null, .null, .null, .null, .null, .int 0, .int 0, .int 0, .int 0, .int 0, .int 0, .int 0, .int 0, .int 0, .int 0])), (q_1, .inl (k_2, 2000, .inl (fun _ => 0)))] := hD
  refine lv_aload_n hx hb dX3_init_13 rfl (lv_at hl 0 rfl) ?_
  refine lv_sipush (v := 2000) hx hb dX3_init_14 (by decide +kernel) ?_
  refine va_newa (atype := .int) (ty := .int) (a0 := (2000, .inl (fun _ => 0))) (N' := 2000) hx hb (hts (.arrayClass .int) (by decide +kernel)) rfl hK hP hD hS hA (fun cA => vp_cell_i cA 2000 (fun _ => 0)) (by decide +kernel) (by decide +kernel) (by decide +kernel) (Nat.le_of_ble_eq_true rfl) (Nat.le_of_ble_eq_true rfl) dX3_init_17 (fun q_3 k_4 H hK hP hD hS => ?_)
  have hP : va_P (dC, dI) vwCl [(o0, .inr (2, [.ref q_1, .null, .null, .null, .null, .null, .int 0, .int 0, .int 0, .int 0, .int 0, .int 0, .int 0, .int 0, .int 0, .int 0])), (q_1, .inl (k_2, 2000, .inl (fun _ => 0))), (q_3, .inl (k_4, 2000, .inl (fun _ => 0)))] H := hP
  have hD : va_D A [(o0, .inr (2, [.ref q_1, .null, .null, .null, .null, .null, .int 0, .int 0, .int 0, .int 0, .int 0, .int 0, .int 0, .int 0, .int 0, .int 0])), (q_1, .inl (k_2, 2000, .inl (fun _ => 0))), (q_3, .inl (k_4, 2000, .inl (fun _ => 0)))] := hD
  have hK : va_K (dC, dI) vwCl [(k_2, .int), (k_4, .int)] s := hK
  refine W.widen (k := 2) (n := 4000) (by omega) (by omega) ?_
  refine va_putF (D := (dC, dI)) (ci := 2) (v := .ref q_3) (ty := .array (.int)) (C := RX3) (T := TX3) (N := 16) hx hb hts (by decide +kernel) tyX3 tyX3_ok nmX3 hown hK hP hD hS 0 rfl rfl 1 (by decide) (hts (.fieldLink RX3 15 "SignForms$Stream" "signs" "[I") (by decide +kernel)) (fun _ h9 => h9) rfl hin rfl (by decide +kernel) rfl rfl (Nat.le_of_ble_eq_true rfl) dX3_init_19 (fun H locs hP hD hS => ?_)
  have hP : va_P (dC, dI) vwCl [(o0, .inr (2, [.ref q_1, .ref q_3, .null, .null, .null, .null, .int 0, .int 0, .int 0, .int 0, .int 0, .int 0, .int 0, .int 0, .int 0, .int 0])), (q_1, .inl (k_2, 2000, .inl (fun _ => 0))), (q_3, .inl (k_4, 2000, .inl (fun _ => 0)))] H := hP
  have hD : va_D A [(o0, .inr (2, [.ref q_1, .ref q_3, .null, .null, .null, .null, .int 0, .int 0, .int 0, .int 0, .int 0, .int 0, .int 0, .int 0, .int 0, .int 0])), (q_1, .inl (k_2, 2000, .inl (fun _ => 0))), (q_3, .inl (k_4, 2000, .inl (fun _ => 0)))] := hD
  refine lv_aload_n hx hb dX3_init_22 rfl (lv_at hl 0 rfl) ?_
  refine lv_sipush (v := 2000) hx hb dX3_init_23 (by decide +kernel) ?_
  refine va_newa (atype := .int) (ty := .int) (a0 := (2000, .inl (fun _ => 0))) (N' := 2000) hx hb (hts (.arrayClass .int) (by decide +kernel)) rfl hK hP hD hS hA (fun cA => vp_cell_i cA 2000 (fun _ => 0)) (by decide +kernel) (by decide +kernel) (by decide +kernel) (Nat.le_of_ble_eq_true rfl) (Nat.le_of_ble_eq_true rfl) dX3_init_26 (fun q_5 k_6 H hK hP hD hS => ?_)
  have hP : va_P (dC, dI) vwCl [(o0, .inr (2, [.ref q_1, .ref q_3, .null, .null, .null, .null, .int 0, .int 0, .int 0, .int 0, .int 0, .int 0, .int 0, .int 0, .int 0, .int 0])), (q_1, .inl (k_2, 2000, .inl (fun _ => 0))), (q_3, .inl (k_4, 2000, .inl (fun _ => 0))), (q_5, .inl (k_6, 2000, .inl (fun _ => 0)))] H := hP
  have hD : va_D A [(o0, .inr (2, [.ref q_1, .ref q_3, .null, .null, .null, .null, .int 0, .int 0, .int 0, .int 0, .int 0, .int 0, .int 0, .int 0, .int 0, .int 0])), (q_1, .inl (k_2, 2000, .inl (fun _ => 0))), (q_3, .inl (k_4, 2000, .inl (fun _ => 0))), (q_5, .inl (k_6, 2000, .inl (fun _ => 0)))] := hD
  have hK : va_K (dC, dI) vwCl [(k_2, .int), (k_4, .int), (k_6, .int)] s := hK
  refine W.widen (k := 3) (n := 6000) (by omega) (by omega) ?_
  refine va_putF (D := (dC, dI)) (ci := 2) (v := .ref q_5) (ty := .array (.int)) (C := RX3) (T := TX3) (N := 16) hx hb hts (by decide +kernel) tyX3 tyX3_ok nmX3 hown hK hP hD hS 0 rfl rfl 2 (by decide) (hts (.fieldLink RX3 18 "SignForms$Stream" "places" "[I") (by decide +kernel)) (fun _ h9 => h9) rfl hin rfl (by decide +kernel) rfl rfl (Nat.le_of_ble_eq_true rfl) dX3_init_28 (fun H locs hP hD hS => ?_)
  have hP : va_P (dC, dI) vwCl [(o0, .inr (2, [.ref q_1, .ref q_3, .ref q_5, .null, .null, .null, .int 0, .int 0, .int 0, .int 0, .int 0, .int 0, .int 0, .int 0, .int 0, .int 0])), (q_1, .inl (k_2, 2000, .inl (fun _ => 0))), (q_3, .inl (k_4, 2000, .inl (fun _ => 0))), (q_5, .inl (k_6, 2000, .inl (fun _ => 0)))] H := hP
  have hD : va_D A [(o0, .inr (2, [.ref q_1, .ref q_3, .ref q_5, .null, .null, .null, .int 0, .int 0, .int 0, .int 0, .int 0, .int 0, .int 0, .int 0, .int 0, .int 0])), (q_1, .inl (k_2, 2000, .inl (fun _ => 0))), (q_3, .inl (k_4, 2000, .inl (fun _ => 0))), (q_5, .inl (k_6, 2000, .inl (fun _ => 0)))] := hD
  refine lv_aload_n hx hb dX3_init_31 rfl (lv_at hl 0 rfl) ?_
  refine lv_sipush (v := 2000) hx hb dX3_init_32 (by decide +kernel) ?_
  refine va_newa (atype := .int) (ty := .int) (a0 := (2000, .inl (fun _ => 0))) (N' := 2000) hx hb (hts (.arrayClass .int) (by decide +kernel)) rfl hK hP hD hS hA (fun cA => vp_cell_i cA 2000 (fun _ => 0)) (by decide +kernel) (by decide +kernel) (by decide +kernel) (Nat.le_of_ble_eq_true rfl) (Nat.le_of_ble_eq_true rfl) dX3_init_35 (fun q_7 k_8 H hK hP hD hS => ?_)
  have hP : va_P (dC, dI) vwCl [(o0, .inr (2, [.ref q_1, .ref q_3, .ref q_5, .null, .null, .null, .int 0, .int 0, .int 0, .int 0, .int 0, .int 0, .int 0, .int 0, .int 0, .int 0])), (q_1, .inl (k_2, 2000, .inl (fun _ => 0))), (q_3, .inl (k_4, 2000, .inl (fun _ => 0))), (q_5, .inl (k_6, 2000, .inl (fun _ => 0))), (q_7, .inl (k_8, 2000, .inl (fun _ => 0)))] H := hP
  have hD : va_D A [(o0, .inr (2, [.ref q_1, .ref q_3, .ref q_5, .null, .null, .null, .int 0, .int 0, .int 0, .int 0, .int 0, .int 0, .int 0, .int 0, .int 0, .int 0])), (q_1, .inl (k_2, 2000, .inl (fun _ => 0))), (q_3, .inl (k_4, 2000, .inl (fun _ => 0))), (q_5, .inl (k_6, 2000, .inl (fun _ => 0))), (q_7, .inl (k_8, 2000, .inl (fun _ => 0)))] := hD
  have hK : va_K (dC, dI) vwCl [(k_2, .int), (k_4, .int), (k_6, .int), (k_8, .int)] s := hK
  refine W.widen (k := 4) (n := 8000) (by omega) (by omega) ?_
  refine va_putF (D := (dC, dI)) (ci := 2) (v := .ref q_7) (ty := .array (.int)) (C := RX3) (T := TX3) (N := 16) hx hb hts (by decide +kernel) tyX3 tyX3_ok nmX3 hown hK hP hD hS 0 rfl rfl 3 (by decide) (hts (.fieldLink RX3 21 "SignForms$Stream" "lengths" "[I") (by decide +kernel)) (fun _ h9 => h9) rfl hin rfl (by decide +kernel) rfl rfl (Nat.le_of_ble_eq_true rfl) dX3_init_37 (fun H locs hP hD hS => ?_)
  have hP : va_P (dC, dI) vwCl [(o0, .inr (2, [.ref q_1, .ref q_3, .ref q_5, .ref q_7, .null, .null, .int 0, .int 0, .int 0, .int 0, .int 0, .int 0, .int 0, .int 0, .int 0, .int 0])), (q_1, .inl (k_2, 2000, .inl (fun _ => 0))), (q_3, .inl (k_4, 2000, .inl (fun _ => 0))), (q_5, .inl (k_6, 2000, .inl (fun _ => 0))), (q_7, .inl (k_8, 2000, .inl (fun _ => 0)))] H := hP
  have hD : va_D A [(o0, .inr (2, [.ref q_1, .ref q_3, .ref q_5, .ref q_7, .null, .null, .int 0, .int 0, .int 0, .int 0, .int 0, .int 0, .int 0, .int 0, .int 0, .int 0])), (q_1, .inl (k_2, 2000, .inl (fun _ => 0))), (q_3, .inl (k_4, 2000, .inl (fun _ => 0))), (q_5, .inl (k_6, 2000, .inl (fun _ => 0))), (q_7, .inl (k_8, 2000, .inl (fun _ => 0)))] := hD
  refine lv_aload_n hx hb dX3_init_40 rfl (lv_at hl 0 rfl) ?_
  refine lv_sipush (v := 2000) hx hb dX3_init_41 (by decide +kernel) ?_
  refine va_newa (atype := .int) (ty := .int) (a0 := (2000, .inl (fun _ => 0))) (N' := 2000) hx hb (hts (.arrayClass .int) (by decide +kernel)) rfl hK hP hD hS hA (fun cA => vp_cell_i cA 2000 (fun _ => 0)) (by decide +kernel) (by decide +kernel) (by decide +kernel) (Nat.le_of_ble_eq_true rfl) (Nat.le_of_ble_eq_true rfl) dX3_init_44 (fun q_9 k_10 H hK hP hD hS => ?_)
  have hP : va_P (dC, dI) vwCl [(o0, .inr (2, [.ref q_1, .ref q_3, .ref q_5, .ref q_7, .null, .null, .int 0, .int 0, .int 0, .int 0, .int 0, .int 0, .int 0, .int 0, .int 0, .int 0])), (q_1, .inl (k_2, 2000, .inl (fun _ => 0))), (q_3, .inl (k_4, 2000, .inl (fun _ => 0))), (q_5, .inl (k_6, 2000, .inl (fun _ => 0))), (q_7, .inl (k_8, 2000, .inl (fun _ => 0))), (q_9, .inl (k_10, 2000, .inl (fun _ => 0)))] H := hP
  have hD : va_D A [(o0, .inr (2, [.ref q_1, .ref q_3, .ref q_5, .ref q_7, .null, .null, .int 0, .int 0, .int 0, .int 0, .int 0, .int 0, .int 0, .int 0, .int 0, .int 0])), (q_1, .inl (k_2, 2000, .inl (fun _ => 0))), (q_3, .inl (k_4, 2000, .inl (fun _ => 0))), (q_5, .inl (k_6, 2000, .inl (fun _ => 0))), (q_7, .inl (k_8, 2000, .inl (fun _ => 0))), (q_9, .inl (k_10, 2000, .inl (fun _ => 0)))] := hD
  have hK : va_K (dC, dI) vwCl [(k_2, .int), (k_4, .int), (k_6, .int), (k_8, .int), (k_10, .int)] s := hK
  refine W.widen (k := 5) (n := 10000) (by omega) (by omega) ?_
  refine va_putF (D := (dC, dI)) (ci := 2) (v := .ref q_9) (ty := .array (.int)) (C := RX3) (T := TX3) (N := 16) hx hb hts (by decide +kernel) tyX3 tyX3_ok nmX3 hown hK hP hD hS 0 rfl rfl 4 (by decide) (hts (.fieldLink RX3 24 "SignForms$Stream" "replaced" "[I") (by decide +kernel)) (fun _ h9 => h9) rfl hin rfl (by decide +kernel) rfl rfl (Nat.le_of_ble_eq_true rfl) dX3_init_46 (fun H locs hP hD hS => ?_)
  have hP : va_P (dC, dI) vwCl [(o0, .inr (2, [.ref q_1, .ref q_3, .ref q_5, .ref q_7, .ref q_9, .null, .int 0, .int 0, .int 0, .int 0, .int 0, .int 0, .int 0, .int 0, .int 0, .int 0])), (q_1, .inl (k_2, 2000, .inl (fun _ => 0))), (q_3, .inl (k_4, 2000, .inl (fun _ => 0))), (q_5, .inl (k_6, 2000, .inl (fun _ => 0))), (q_7, .inl (k_8, 2000, .inl (fun _ => 0))), (q_9, .inl (k_10, 2000, .inl (fun _ => 0)))] H := hP
  have hD : va_D A [(o0, .inr (2, [.ref q_1, .ref q_3, .ref q_5, .ref q_7, .ref q_9, .null, .int 0, .int 0, .int 0, .int 0, .int 0, .int 0, .int 0, .int 0, .int 0, .int 0])), (q_1, .inl (k_2, 2000, .inl (fun _ => 0))), (q_3, .inl (k_4, 2000, .inl (fun _ => 0))), (q_5, .inl (k_6, 2000, .inl (fun _ => 0))), (q_7, .inl (k_8, 2000, .inl (fun _ => 0))), (q_9, .inl (k_10, 2000, .inl (fun _ => 0)))] := hD
  refine lv_aload_n hx hb dX3_init_49 rfl (lv_at hl 0 rfl) ?_
  refine va_new (ci := 1) (fs := [.int 0, .int 0, .int 0]) (C := RX2) (T := TX2) (N := 3) hx hb hts (by decide +kernel) tyX2 tyX2_ok hown (hts (.classLink RX3 27 RX2) (by decide +kernel)) (hts (.instantiable RX2 3) (by decide +kernel)) (hts (.initialized RX2) (by decide +kernel)) hK hP hD hS hA rfl (fun j hj => by rcases (show j = 0 ∨ j = 1 ∨ j = 2 by omega) with rfl | rfl | rfl <;> rfl) (Nat.le_of_ble_eq_true rfl) (Nat.le_of_ble_eq_true rfl) dX3_init_50 (fun q_11 H hP hD hS => ?_)
  have hP : va_P (dC, dI) vwCl [(o0, .inr (2, [.ref q_1, .ref q_3, .ref q_5, .ref q_7, .ref q_9, .null, .int 0, .int 0, .int 0, .int 0, .int 0, .int 0, .int 0, .int 0, .int 0, .int 0])), (q_1, .inl (k_2, 2000, .inl (fun _ => 0))), (q_3, .inl (k_4, 2000, .inl (fun _ => 0))), (q_5, .inl (k_6, 2000, .inl (fun _ => 0))), (q_7, .inl (k_8, 2000, .inl (fun _ => 0))), (q_9, .inl (k_10, 2000, .inl (fun _ => 0))), (q_11, .inr (1, [.int 0, .int 0, .int 0]))] H := hP
  have hD : va_D A [(o0, .inr (2, [.ref q_1, .ref q_3, .ref q_5, .ref q_7, .ref q_9, .null, .int 0, .int 0, .int 0, .int 0, .int 0, .int 0, .int 0, .int 0, .int 0, .int 0])), (q_1, .inl (k_2, 2000, .inl (fun _ => 0))), (q_3, .inl (k_4, 2000, .inl (fun _ => 0))), (q_5, .inl (k_6, 2000, .inl (fun _ => 0))), (q_7, .inl (k_8, 2000, .inl (fun _ => 0))), (q_9, .inl (k_10, 2000, .inl (fun _ => 0))), (q_11, .inr (1, [.int 0, .int 0, .int 0]))] := hD
  refine W.widen (k := 6) (n := 10003) (by omega) (by omega) ?_
  refine lv_dup hx hb dX3_init_53 rfl ?_
  have hPc := hP.sub (ws' := [(q_11, .inr (1, [.int 0, .int 0, .int 0]))]) [6] rfl
  have hKc := hK.sub (tys' := []) [] rfl
  have hDc := hD.sub (ws' := [(q_11, .inr (1, [.int 0, .int 0, .int 0]))]) [6] (by decide) rfl
  have hFc := va_free (wc := [(q_11, .inr (1, [.int 0, .int 0, .int 0]))]) hD hS hA [6] rfl
  refine va_callv (va_runIN (As := []) (rest := [.ref q_11, .ref o0]) ⟨hx, hb, hml, hown, hts⟩ (kX2_init l dC dI q_11 H.size) ⟨va_cnB 0 hts gX3_init_X2_init_n29 rfl rfl rfl hN (hts (.initialized RX2) (by decide +kernel)) (by decide +kernel) ⟨Nat.le_of_ble_eq_true rfl, Nat.le_of_ble_eq_true rfl⟩, rfl, hts (.instanceMethod yX2_init) (by decide +kernel)⟩ ⟨fun a U g mk q => by obtain ⟨q0, q1, qP, qK, qD⟩ := q; exact ⟨q0, q1, qP, va_K.moved (u := U) (U := U.calling g mk a) (Vm.Alike.refl U.vm) qK, qD⟩, fun U hU hW => ⟨rfl, by rw [hU], by rw [hU]; exact hPc, va_K.moved hW.alike hKc, hDc.weaken (fun _ _ _ _ => trivial)⟩⟩ rfl rfl hl.1 rfl (lv_room (Nat.le_of_ble_eq_true rfl)) dX3_init_54 ⟨Nat.le_of_ble_eq_true rfl, Nat.le_of_ble_eq_true rfl⟩) hS (fun q _ h => hFc q h) hFc (fun u t H1 locs ht hvm hwr_12 hB hz1 hk1 hS => ?_)
  obtain ⟨hP1, hK1, hD1⟩ := hB
  rw [ht] at hP1
  obtain ⟨hP, hD⟩ := va_join (wr := [(o0, .inr (2, [.ref q_1, .ref q_3, .ref q_5, .ref q_7, .ref q_9, .null, .int 0, .int 0, .int 0, .int 0, .int 0, .int 0, .int 0, .int 0, .int 0, .int 0])), (q_1, .inl (k_2, 2000, .inl (fun _ => 0))), (q_3, .inl (k_4, 2000, .inl (fun _ => 0))), (q_5, .inl (k_6, 2000, .inl (fun _ => 0))), (q_7, .inl (k_8, 2000, .inl (fun _ => 0))), (q_9, .inl (k_10, 2000, .inl (fun _ => 0)))]) (w1 := [(q_11, .inr (1, [.int 0, .int 0, .int 0]))]) hP hD [6] [0, 1, 2, 3, 4, 5] rfl rfl (by decide) (by decide) hk1 hFc hP1 hD1
  generalize H1 = H at hP hS ⊢
  have hP : va_P (dC, dI) vwCl [(o0, .inr (2, [.ref q_1, .ref q_3, .ref q_5, .ref q_7, .ref q_9, .null, .int 0, .int 0, .int 0, .int 0, .int 0, .int 0, .int 0, .int 0, .int 0, .int 0])), (q_1, .inl (k_2, 2000, .inl (fun _ => 0))), (q_3, .inl (k_4, 2000, .inl (fun _ => 0))), (q_5, .inl (k_6, 2000, .inl (fun _ => 0))), (q_7, .inl (k_8, 2000, .inl (fun _ => 0))), (q_9, .inl (k_10, 2000, .inl (fun _ => 0))), (q_11, .inr (1, [.int 0, .int 0, .int 0]))] H := hP
  have hD : va_D A [(o0, .inr (2, [.ref q_1, .ref q_3, .ref q_5, .ref q_7, .ref q_9, .null, .int 0, .int 0, .int 0, .int 0, .int 0, .int 0, .int 0, .int 0, .int 0, .int 0])), (q_1, .inl (k_2, 2000, .inl (fun _ => 0))), (q_3, .inl (k_4, 2000, .inl (fun _ => 0))), (q_5, .inl (k_6, 2000, .inl (fun _ => 0))), (q_7, .inl (k_8, 2000, .inl (fun _ => 0))), (q_9, .inl (k_10, 2000, .inl (fun _ => 0))), (q_11, .inr (1, [.int 0, .int 0, .int 0]))] := hD
  refine va_putF (D := (dC, dI)) (ci := 2) (v := .ref q_11) (ty := .object "SignForms$Part") (C := RX3) (T := TX3) (N := 16) hx hb hts (by decide +kernel) tyX3 tyX3_ok nmX3 hown hK hP hD hS 0 rfl rfl 5 (by decide) (hts (.fieldLink RX3 30 "SignForms$Stream" "part" "LSignForms$Part;") (by decide +kernel)) (fun _ h9 => h9) rfl hin rfl (by decide +kernel) rfl rfl (Nat.le_of_ble_eq_true rfl) dX3_init_57 (fun H locs hP hD hS => ?_)
  have hP : va_P (dC, dI) vwCl [(o0, .inr (2, [.ref q_1, .ref q_3, .ref q_5, .ref q_7, .ref q_9, .ref q_11, .int 0, .int 0, .int 0, .int 0, .int 0, .int 0, .int 0, .int 0, .int 0, .int 0])), (q_1, .inl (k_2, 2000, .inl (fun _ => 0))), (q_3, .inl (k_4, 2000, .inl (fun _ => 0))), (q_5, .inl (k_6, 2000, .inl (fun _ => 0))), (q_7, .inl (k_8, 2000, .inl (fun _ => 0))), (q_9, .inl (k_10, 2000, .inl (fun _ => 0))), (q_11, .inr (1, [.int 0, .int 0, .int 0]))] H := hP
  have hD : va_D A [(o0, .inr (2, [.ref q_1, .ref q_3, .ref q_5, .ref q_7, .ref q_9, .ref q_11, .int 0, .int 0, .int 0, .int 0, .int 0, .int 0, .int 0, .int 0, .int 0, .int 0])), (q_1, .inl (k_2, 2000, .inl (fun _ => 0))), (q_3, .inl (k_4, 2000, .inl (fun _ => 0))), (q_5, .inl (k_6, 2000, .inl (fun _ => 0))), (q_7, .inl (k_8, 2000, .inl (fun _ => 0))), (q_9, .inl (k_10, 2000, .inl (fun _ => 0))), (q_11, .inr (1, [.int 0, .int 0, .int 0]))] := hD
  have hP9 := hP.sub (ws' := [(o0, .inr (2, [.ref q_1, .ref q_3, .ref q_5, .ref q_7, .ref q_9, .ref q_11, .int 0, .int 0, .int 0, .int 0, .int 0, .int 0, .int 0, .int 0, .int 0, .int 0]))]) [0] rfl
  have hD9 := hD.sub (ws' := [(o0, .inr (2, [.ref q_1, .ref q_3, .ref q_5, .ref q_7, .ref q_9, .ref q_11, .int 0, .int 0, .int 0, .int 0, .int 0, .int 0, .int 0, .int 0, .int 0, .int 0]))]) [0] (by decide) rfl
  have hK9 := hK.sub (tys' := []) [] rfl
  refine W.widen (k := 6) (n := 10003) (by omega) (by omega) ?_
  exact W.vret hx hb hr (fun t ht hW => ⟨⟨(), rfl, trivial, q_1, q_3, q_5, q_7, q_9, q_11, by rw [ht]; exact hP9, va_K.moved hW.alike hK9, hD9⟩, hS.F ht⟩) hS.2.2 dX3_init_60
end
section
set_option maxHeartbeats 4000000 in
set_option maxRecDepth 100000 in
theorem kX3_begin (l : Launch) (dC : Nat → ClassId) (dI : Nat → Nat → Nat) (o0 o1 o2 o3 o4 o5 o6 : Nat) (sz : Nat) (p0 p1 : Int32) : Met l yX3_begin wsX3_begin ({ frames := 0, cells := 0, slots := 0, locals := 0 } : Room) (va_Pc [.ref o0, .int p0, .int p1] (fun U => U.heap.size = sz ∧ va_P (dC, dI) vwCl [(o0, .inr (2, [.ref o1, .ref o2, .ref o3, .ref o4, .ref o5, .ref o6, .int 0, .int 0, .int 0, .int 0, .int 0, .int 0, .int 0, .int 0, .int 0, .int 0]))] U.heap ∧ va_K (dC, dI) vwCl [] U ∧ va_D (fun _ => True) [(o0, .inr (2, [.ref o1, .ref o2, .ref o3, .ref o4, .ref o5, .ref o6, .int 0, .int 0, .int 0, .int 0, .int 0, .int 0, .int 0, .int 0, .int 0, .int 0]))])) (va_Qv (fun (_ : Unit) => True) (fun _ _ => True) (va_A [(o0, .inr (2, [.ref o1, .ref o2, .ref o3, .ref o4, .ref o5, .ref o6, .int 0, .int 0, .int 0, .int 0, .int 0, .int 0, .int 0, .int 0, .int 0, .int 0]))] sz)) 0 0 (va_A [(o0, .inr (2, [.ref o1, .ref o2, .ref o3, .ref o4, .ref o5, .ref o6, .int 0, .int 0, .int 0, .int 0, .int 0, .int 0, .int 0, .int 0, .int 0, .int 0]))] sz) := by
  refine Met.ofW (cc := cX3_begin) (maxL := 3) (ret := none) (by decide) rfl ?_
  intro p e s m args below meth c s₁ B hml hv
  obtain ⟨rfl, hsz, hP, hK, hD0⟩ := hv
  have hx := B.exec
  have hb := B.bytes
  have hr := B.returns
  have hts := atoms_spec (ws := wsX3_begin) B.pre
  have hown : s.vm.findClass RX3 = some m.cls := findClass_of_methodNamed B.named
  have hlocks := B.notSynchronized
  subst hsz
  have hD := hD0.self (sz := s.heap.size)
  generalize hAe : va_A [(o0, .inr (2, [.ref o1, .ref o2, .ref o3, .ref o4, .ref o5, .ref o6, .int 0, .int 0, .int 0, .int 0, .int 0, .int 0, .int 0, .int 0, .int 0, .int 0]))] s.heap.size = A at hD ⊢
  have hA : ∀ q : Nat, s.heap.size ≤ q → A q := fun q h => by rw [← hAe]; exact Or.inr h
  have hS : va_S A s.heap s.heap [] := va_S.rf
  have hl := lv_entry ([.ref o0, .int p0, .int p1]) (n := 3) (Nat.le_of_ble_eq_true rfl)
  rw [lg_entry_eq]
  generalize (lg_sl ([.ref o0, .int p0, .int p1]) ++ List.replicate (3 - (lg_sl ([.ref o0, .int p0, .int p1])).length) Slot.unset).toArray = ls at hl ⊢
  have hl : lv_has ls 3 [(0, .ref o0), (1, .int p0), (2, .int p1)] := hl
  refine lv_aload_n hx hb dX3_begin_0 rfl (lv_at hl 0 rfl) ?_
  refine lv_iload_n hx hb dX3_begin_1 rfl (lv_at hl 1 rfl) ?_
  refine va_put (D := (dC, dI)) (ci := 2) (v := .int p0) (ty := .int) (C := RX3) (T := TX3) (N := 16) hx hb hts (by decide +kernel) tyX3 tyX3_ok nmX3 hown hK hP hD hS 0 rfl rfl 6 (by decide) (hts (.fieldLink RX3 34 "SignForms$Stream" "form" "I") (by decide +kernel)) (fun _ h9 => h9) rfl (by decide +kernel) rfl rfl (Nat.le_of_ble_eq_true rfl) dX3_begin_2 (fun H locs hP hD hS => ?_)
  have hP : va_P (dC, dI) vwCl [(o0, .inr (2, [.ref o1, .ref o2, .ref o3, .ref o4, .ref o5, .ref o6, .int p0, .int 0, .int 0, .int 0, .int 0, .int 0, .int 0, .int 0, .int 0, .int 0]))] H := hP
  have hD : va_D A [(o0, .inr (2, [.ref o1, .ref o2, .ref o3, .ref o4, .ref o5, .ref o6, .int p0, .int 0, .int 0, .int 0, .int 0, .int 0, .int 0, .int 0, .int 0, .int 0]))] := hD
  refine lv_aload_n hx hb dX3_begin_5 rfl (lv_at hl 0 rfl) ?_
  refine lv_iload_n hx hb dX3_begin_6 rfl (lv_at hl 2 rfl) ?_
  refine va_put (D := (dC, dI)) (ci := 2) (v := .int p1) (ty := .int) (C := RX3) (T := TX3) (N := 16) hx hb hts (by decide +kernel) tyX3 tyX3_ok nmX3 hown hK hP hD hS 0 rfl rfl 7 (by decide) (hts (.fieldLink RX3 38 "SignForms$Stream" "policy" "I") (by decide +kernel)) (fun _ h9 => h9) rfl (by decide +kernel) rfl rfl (Nat.le_of_ble_eq_true rfl) dX3_begin_7 (fun H locs hP hD hS => ?_)
  have hP : va_P (dC, dI) vwCl [(o0, .inr (2, [.ref o1, .ref o2, .ref o3, .ref o4, .ref o5, .ref o6, .int p0, .int p1, .int 0, .int 0, .int 0, .int 0, .int 0, .int 0, .int 0, .int 0]))] H := hP
  have hD : va_D A [(o0, .inr (2, [.ref o1, .ref o2, .ref o3, .ref o4, .ref o5, .ref o6, .int p0, .int p1, .int 0, .int 0, .int 0, .int 0, .int 0, .int 0, .int 0, .int 0]))] := hD
  refine lv_aload_n hx hb dX3_begin_10 rfl (lv_at hl 0 rfl) ?_
  refine lv_iconst (v := 0) hx hb dX3_begin_11 (by decide) ?_
  refine va_put (D := (dC, dI)) (ci := 2) (v := .int 0) (ty := .int) (C := RX3) (T := TX3) (N := 16) hx hb hts (by decide +kernel) tyX3 tyX3_ok nmX3 hown hK hP hD hS 0 rfl rfl 8 (by decide) (hts (.fieldLink RX3 41 "SignForms$Stream" "came" "I") (by decide +kernel)) (fun _ h9 => h9) rfl (by decide +kernel) rfl rfl (Nat.le_of_ble_eq_true rfl) dX3_begin_12 (fun H locs hP hD hS => ?_)
  have hP : va_P (dC, dI) vwCl [(o0, .inr (2, [.ref o1, .ref o2, .ref o3, .ref o4, .ref o5, .ref o6, .int p0, .int p1, .int 0, .int 0, .int 0, .int 0, .int 0, .int 0, .int 0, .int 0]))] H := hP
  have hD : va_D A [(o0, .inr (2, [.ref o1, .ref o2, .ref o3, .ref o4, .ref o5, .ref o6, .int p0, .int p1, .int 0, .int 0, .int 0, .int 0, .int 0, .int 0, .int 0, .int 0]))] := hD
  refine lv_aload_n hx hb dX3_begin_15 rfl (lv_at hl 0 rfl) ?_
  refine lv_iconst (v := 0) hx hb dX3_begin_16 (by decide) ?_
  refine va_put (D := (dC, dI)) (ci := 2) (v := .int 0) (ty := .int) (C := RX3) (T := TX3) (N := 16) hx hb hts (by decide +kernel) tyX3 tyX3_ok nmX3 hown hK hP hD hS 0 rfl rfl 9 (by decide) (hts (.fieldLink RX3 44 "SignForms$Stream" "decided" "I") (by decide +kernel)) (fun _ h9 => h9) rfl (by decide +kernel) rfl rfl (Nat.le_of_ble_eq_true rfl) dX3_begin_17 (fun H locs hP hD hS => ?_)
  have hP : va_P (dC, dI) vwCl [(o0, .inr (2, [.ref o1, .ref o2, .ref o3, .ref o4, .ref o5, .ref o6, .int p0, .int p1, .int 0, .int 0, .int 0, .int 0, .int 0, .int 0, .int 0, .int 0]))] H := hP
  have hD : va_D A [(o0, .inr (2, [.ref o1, .ref o2, .ref o3, .ref o4, .ref o5, .ref o6, .int p0, .int p1, .int 0, .int 0, .int 0, .int 0, .int 0, .int 0, .int 0, .int 0]))] := hD
  refine lv_aload_n hx hb dX3_begin_20 rfl (lv_at hl 0 rfl) ?_
  refine lv_iconst (v := 0) hx hb dX3_begin_21 (by decide) ?_
  refine va_put (D := (dC, dI)) (ci := 2) (v := .int 0) (ty := .int) (C := RX3) (T := TX3) (N := 16) hx hb hts (by decide +kernel) tyX3 tyX3_ok nmX3 hown hK hP hD hS 0 rfl rfl 10 (by decide) (hts (.fieldLink RX3 47 "SignForms$Stream" "signCount" "I") (by decide +kernel)) (fun _ h9 => h9) rfl (by decide +kernel) rfl rfl (Nat.le_of_ble_eq_true rfl) dX3_begin_22 (fun H locs hP hD hS => ?_)
  have hP : va_P (dC, dI) vwCl [(o0, .inr (2, [.ref o1, .ref o2, .ref o3, .ref o4, .ref o5, .ref o6, .int p0, .int p1, .int 0, .int 0, .int 0, .int 0, .int 0, .int 0, .int 0, .int 0]))] H := hP
  have hD : va_D A [(o0, .inr (2, [.ref o1, .ref o2, .ref o3, .ref o4, .ref o5, .ref o6, .int p0, .int p1, .int 0, .int 0, .int 0, .int 0, .int 0, .int 0, .int 0, .int 0]))] := hD
  refine lv_aload_n hx hb dX3_begin_25 rfl (lv_at hl 0 rfl) ?_
  refine lv_iconst (v := 0) hx hb dX3_begin_26 (by decide) ?_
  refine va_put (D := (dC, dI)) (ci := 2) (v := .int 0) (ty := .int) (C := RX3) (T := TX3) (N := 16) hx hb hts (by decide +kernel) tyX3 tyX3_ok nmX3 hown hK hP hD hS 0 rfl rfl 11 (by decide) (hts (.fieldLink RX3 50 "SignForms$Stream" "subparts" "I") (by decide +kernel)) (fun _ h9 => h9) rfl (by decide +kernel) rfl rfl (Nat.le_of_ble_eq_true rfl) dX3_begin_27 (fun H locs hP hD hS => ?_)
  have hP : va_P (dC, dI) vwCl [(o0, .inr (2, [.ref o1, .ref o2, .ref o3, .ref o4, .ref o5, .ref o6, .int p0, .int p1, .int 0, .int 0, .int 0, .int 0, .int 0, .int 0, .int 0, .int 0]))] H := hP
  have hD : va_D A [(o0, .inr (2, [.ref o1, .ref o2, .ref o3, .ref o4, .ref o5, .ref o6, .int p0, .int p1, .int 0, .int 0, .int 0, .int 0, .int 0, .int 0, .int 0, .int 0]))] := hD
  refine lv_aload_n hx hb dX3_begin_30 rfl (lv_at hl 0 rfl) ?_
  refine lv_iconst (v := (-1)) hx hb dX3_begin_31 (by decide) ?_
  refine va_put (D := (dC, dI)) (ci := 2) (v := .int (-1)) (ty := .int) (C := RX3) (T := TX3) (N := 16) hx hb hts (by decide +kernel) tyX3 tyX3_ok nmX3 hown hK hP hD hS 0 rfl rfl 12 (by decide) (hts (.fieldLink RX3 53 "SignForms$Stream" "firstSubpart" "I") (by decide +kernel)) (fun _ h9 => h9) rfl (by decide +kernel) rfl rfl (Nat.le_of_ble_eq_true rfl) dX3_begin_32 (fun H locs hP hD hS => ?_)
  have hP : va_P (dC, dI) vwCl [(o0, .inr (2, [.ref o1, .ref o2, .ref o3, .ref o4, .ref o5, .ref o6, .int p0, .int p1, .int 0, .int 0, .int 0, .int 0, .int (-1), .int 0, .int 0, .int 0]))] H := hP
  have hD : va_D A [(o0, .inr (2, [.ref o1, .ref o2, .ref o3, .ref o4, .ref o5, .ref o6, .int p0, .int p1, .int 0, .int 0, .int 0, .int 0, .int (-1), .int 0, .int 0, .int 0]))] := hD
  refine lv_aload_n hx hb dX3_begin_35 rfl (lv_at hl 0 rfl) ?_
  refine lv_iconst (v := (-1)) hx hb dX3_begin_36 (by decide) ?_
  refine va_put (D := (dC, dI)) (ci := 2) (v := .int (-1)) (ty := .int) (C := RX3) (T := TX3) (N := 16) hx hb hts (by decide +kernel) tyX3 tyX3_ok nmX3 hown hK hP hD hS 0 rfl rfl 13 (by decide) (hts (.fieldLink RX3 56 "SignForms$Stream" "brokenAt" "I") (by decide +kernel)) (fun _ h9 => h9) rfl (by decide +kernel) rfl rfl (Nat.le_of_ble_eq_true rfl) dX3_begin_37 (fun H locs hP hD hS => ?_)
  have hP : va_P (dC, dI) vwCl [(o0, .inr (2, [.ref o1, .ref o2, .ref o3, .ref o4, .ref o5, .ref o6, .int p0, .int p1, .int 0, .int 0, .int 0, .int 0, .int (-1), .int (-1), .int 0, .int 0]))] H := hP
  have hD : va_D A [(o0, .inr (2, [.ref o1, .ref o2, .ref o3, .ref o4, .ref o5, .ref o6, .int p0, .int p1, .int 0, .int 0, .int 0, .int 0, .int (-1), .int (-1), .int 0, .int 0]))] := hD
  refine lv_aload_n hx hb dX3_begin_40 rfl (lv_at hl 0 rfl) ?_
  refine lv_iconst (v := 0) hx hb dX3_begin_41 (by decide) ?_
  refine va_put (D := (dC, dI)) (ci := 2) (v := .int 0) (ty := .boolean) (C := RX3) (T := TX3) (N := 16) hx hb hts (by decide +kernel) tyX3 tyX3_ok nmX3 hown hK hP hD hS 0 rfl rfl 14 (by decide) (hts (.fieldLink RX3 59 "SignForms$Stream" "marked" "Z") (by decide +kernel)) (fun _ h9 => h9) rfl (by decide +kernel) rfl rfl (Nat.le_of_ble_eq_true rfl) dX3_begin_42 (fun H locs hP hD hS => ?_)
  have hP : va_P (dC, dI) vwCl [(o0, .inr (2, [.ref o1, .ref o2, .ref o3, .ref o4, .ref o5, .ref o6, .int p0, .int p1, .int 0, .int 0, .int 0, .int 0, .int (-1), .int (-1), .int 0, .int 0]))] H := hP
  have hD : va_D A [(o0, .inr (2, [.ref o1, .ref o2, .ref o3, .ref o4, .ref o5, .ref o6, .int p0, .int p1, .int 0, .int 0, .int 0, .int 0, .int (-1), .int (-1), .int 0, .int 0]))] := hD
  refine lv_aload_n hx hb dX3_begin_45 rfl (lv_at hl 0 rfl) ?_
  refine lv_iconst (v := 0) hx hb dX3_begin_46 (by decide) ?_
  refine va_put (D := (dC, dI)) (ci := 2) (v := .int 0) (ty := .boolean) (C := RX3) (T := TX3) (N := 16) hx hb hts (by decide +kernel) tyX3 tyX3_ok nmX3 hown hK hP hD hS 0 rfl rfl 15 (by decide) (hts (.fieldLink RX3 63 "SignForms$Stream" "ended" "Z") (by decide +kernel)) (fun _ h9 => h9) rfl (by decide +kernel) rfl rfl (Nat.le_of_ble_eq_true rfl) dX3_begin_47 (fun H locs hP hD hS => ?_)
  have hP : va_P (dC, dI) vwCl [(o0, .inr (2, [.ref o1, .ref o2, .ref o3, .ref o4, .ref o5, .ref o6, .int p0, .int p1, .int 0, .int 0, .int 0, .int 0, .int (-1), .int (-1), .int 0, .int 0]))] H := hP
  have hD : va_D A [(o0, .inr (2, [.ref o1, .ref o2, .ref o3, .ref o4, .ref o5, .ref o6, .int p0, .int p1, .int 0, .int 0, .int 0, .int 0, .int (-1), .int (-1), .int 0, .int 0]))] := hD
  exact W.vret hx hb hr (fun t ht hW => ⟨⟨(), rfl, trivial, trivial⟩, hS.F ht⟩) hS.2.2 dX3_begin_50
end
section
set_option maxHeartbeats 4000000 in
set_option maxRecDepth 100000 in
theorem kX4_init (l : Launch) (dC : Nat → ClassId) (dI : Nat → Nat → Nat) (h0 : Nat) (sz : Nat) : Met l yX4_init wsX4_init ({ frames := 2, cells := 4, slots := 6009, locals := 32 } : Room) (va_Pc [.ref h0] (fun U => U.heap.size = sz ∧ va_P (dC, dI) vwCl [(h0, .inr (3, [.null, .null, .null]))] U.heap ∧ va_K (dC, dI) vwCl [] U ∧ va_D (fun _ => True) [(h0, .inr (3, [.null, .null, .null]))] ∧ va_AO "SignForms$Stream" U ∧ va_Nw (.methodLinkNest RX4 24 yX2_init "SignForms") U)) (va_Qv (fun (_ : Unit) => True) (fun _ t => ∃ (h1 h2 h3 h4 : Nat) (kS kI : ClassId), va_P (dC, dI) vwCl [(h0, .inr (3, [.ref h1, .ref h2, .ref h4])), (h1, .inl (kS, 4, .inr (.inr (.inr (.inr (fun _ => none)))))), (h2, .inr (0, [.ref h3, .int 0])), (h3, .inl (kI, 6000, .inl (fun _ => 0))), (h4, .inr (1, [.int 0, .int 0, .int 0]))] t.heap ∧ va_K (dC, dI) vwCl [(kS, .object "SignForms$Stream"), (kI, .int)] t ∧ va_D (va_A [(h0, .inr (3, [.null, .null, .null]))] sz) [(h0, .inr (3, [.ref h1, .ref h2, .ref h4])), (h1, .inl (kS, 4, .inr (.inr (.inr (.inr (fun _ => none)))))), (h2, .inr (0, [.ref h3, .int 0])), (h3, .inl (kI, 6000, .inl (fun _ => 0))), (h4, .inr (1, [.int 0, .int 0, .int 0]))]) (va_A [(h0, .inr (3, [.null, .null, .null]))] sz)) 4 6009 (va_A [(h0, .inr (3, [.null, .null, .null]))] sz) := by
  refine Met.ofW (cc := cX4_init) (maxL := 1) (ret := none) (by decide) rfl ?_
  intro p e s m args below meth c s₁ B hml hv
  obtain ⟨rfl, hsz, hP, hK, hD0, hAO, hN⟩ := hv
  have hx := B.exec
  have hb := B.bytes
  have hr := B.returns
  have hts := atoms_spec (ws := wsX4_init) B.pre
  have hown : s.vm.findClass RX4 = some m.cls := findClass_of_methodNamed B.named
  have hlocks := B.notSynchronized
  have hin : meth.name = "<init>" := (name_of_methodNamed B.named B.method).1
  subst hsz
  have hD := hD0.self (sz := s.heap.size)
  generalize hAe : va_A [(h0, .inr (3, [.null, .null, .null]))] s.heap.size = A at hD ⊢
  have hA : ∀ q : Nat, s.heap.size ≤ q → A q := fun q h => by rw [← hAe]; exact Or.inr h
  have hS : va_S A s.heap s.heap [] := va_S.rf
  have hl := lv_entry ([.ref h0]) (n := 1) (Nat.le_of_ble_eq_true rfl)
  rw [lg_entry_eq]
  generalize (lg_sl ([.ref h0]) ++ List.replicate (1 - (lg_sl ([.ref h0])).length) Slot.unset).toArray = ls at hl ⊢
  have hl : lv_has ls 1 [(0, .ref h0)] := hl
  refine lv_aload_n hx hb dX4_init_0 rfl (lv_at hl 0 rfl) ?_
  refine W.objInit hx hb hown (hts (.methodLink RX4 3 objectInit) (by decide +kernel)) (hts (.instanceMethod objectInit) (by decide +kernel)) (hts (.code objectInit ⟨#[0xb1]⟩ 1 none) (by decide +kernel)) rfl (by rw [hml]; exact hl.1) rfl dX4_init_1 (Nat.le_of_ble_eq_true rfl) (Nat.le_of_ble_eq_true rfl) ?_
  refine W.eq (g2 := F0 m 4 ls []) rfl ?_
  refine lv_aload_n hx hb dX4_init_4 rfl (lv_at hl 0 rfl) ?_
  refine lv_iconst (v := 4) hx hb dX4_init_5 (by decide) ?_
  refine va_newq (N' := 4) hx hb hown (hts (.classLink RX4 9 RX3) (by decide +kernel)) hAO hK hP hD hS hA (by decide +kernel) (by decide +kernel) (by decide +kernel) (Nat.le_of_ble_eq_true rfl) (Nat.le_of_ble_eq_true rfl) dX4_init_6 (fun q_1 k_2 H hK hP hD hS => ?_)
  have hP : va_P (dC, dI) vwCl [(h0, .inr (3, [.null, .null, .null])), (q_1, .inl (k_2, 4, .inr (.inr (.inr (.inr (fun _ => none))))))] H := hP
  have hD : va_D A [(h0, .inr (3, [.null, .null, .null])), (q_1, .inl (k_2, 4, .inr (.inr (.inr (.inr (fun _ => none))))))] := hD
  have hK : va_K (dC, dI) vwCl [(k_2, .object "SignForms$Stream")] s := hK
  refine W.widen (k := 1) (n := 4) (by omega) (by omega) ?_
  refine va_putF (D := (dC, dI)) (ci := 3) (v := .ref q_1) (ty := .array (.object "SignForms$Stream")) (C := RX4) (T := TX4) (N := 3) hx hb hts (by decide +kernel) tyX4 tyX4_ok nmX4 hown hK hP hD hS 0 rfl rfl 0 (by decide) (hts (.fieldLink RX4 11 "SignForms" "streams" "[LSignForms$Stream;") (by decide +kernel)) (fun _ h9 => h9) rfl hin rfl (by decide +kernel) rfl rfl (Nat.le_of_ble_eq_true rfl) dX4_init_9 (fun H locs hP hD hS => ?_)
  have hP : va_P (dC, dI) vwCl [(h0, .inr (3, [.ref q_1, .null, .null])), (q_1, .inl (k_2, 4, .inr (.inr (.inr (.inr (fun _ => none))))))] H := hP
  have hD : va_D A [(h0, .inr (3, [.ref q_1, .null, .null])), (q_1, .inl (k_2, 4, .inr (.inr (.inr (.inr (fun _ => none))))))] := hD
  refine lv_aload_n hx hb dX4_init_12 rfl (lv_at hl 0 rfl) ?_
  refine va_new (ci := 0) (fs := [.null, .int 0]) (C := RX1) (T := TX1) (N := 2) hx hb hts (by decide +kernel) tyX1 tyX1_ok hown (hts (.classLink RX4 15 RX1) (by decide +kernel)) (hts (.instantiable RX1 2) (by decide +kernel)) (hts (.initialized RX1) (by decide +kernel)) hK hP hD hS hA rfl (fun j hj => by rcases (show j = 0 ∨ j = 1 by omega) with rfl | rfl <;> rfl) (Nat.le_of_ble_eq_true rfl) (Nat.le_of_ble_eq_true rfl) dX4_init_13 (fun q_3 H hP hD hS => ?_)
  have hP : va_P (dC, dI) vwCl [(h0, .inr (3, [.ref q_1, .null, .null])), (q_1, .inl (k_2, 4, .inr (.inr (.inr (.inr (fun _ => none)))))), (q_3, .inr (0, [.null, .int 0]))] H := hP
  have hD : va_D A [(h0, .inr (3, [.ref q_1, .null, .null])), (q_1, .inl (k_2, 4, .inr (.inr (.inr (.inr (fun _ => none)))))), (q_3, .inr (0, [.null, .int 0]))] := hD
  refine W.widen (k := 2) (n := 6) (by omega) (by omega) ?_
  refine lv_dup hx hb dX4_init_16 rfl ?_
  have hPc := hP.sub (ws' := [(q_3, .inr (0, [.null, .int 0]))]) [2] rfl
  have hKc := hK.sub (tys' := []) [] rfl
  have hDc := hD.sub (ws' := [(q_3, .inr (0, [.null, .int 0]))]) [2] (by decide) rfl
  have hFc := va_free (wc := [(q_3, .inr (0, [.null, .int 0]))]) hD hS hA [2] rfl
  refine va_callv (va_runI (As := []) (rest := [.ref q_3, .ref h0]) ⟨hx, hb, hml, hown, hts⟩ (kX1_init l dC dI q_3 H.size) (cwI 0 hts gX4_init_X1_init rfl rfl rfl (hts (.initialized RX1) (by decide +kernel)) (hts (.methodLink RX4 17 yX1_init) (by decide +kernel)) (hts (.instanceMethod yX1_init) (by decide +kernel)) rfl (by decide +kernel) ⟨Nat.le_of_ble_eq_true rfl, Nat.le_of_ble_eq_true rfl⟩) ⟨fun a U g mk q => by obtain ⟨q0, q1, qP, qK, qD⟩ := q; exact ⟨q0, q1, qP, va_K.moved (u := U) (U := U.calling g mk a) (Vm.Alike.refl U.vm) qK, qD⟩, fun U hU hW => ⟨rfl, by rw [hU], by rw [hU]; exact hPc, va_K.moved hW.alike hKc, hDc.weaken (fun _ _ _ _ => trivial)⟩⟩ rfl rfl hl.1 rfl (lv_room (Nat.le_of_ble_eq_true rfl)) dX4_init_17 ⟨Nat.le_of_ble_eq_true rfl, Nat.le_of_ble_eq_true rfl⟩) hS (fun q _ h => hFc q h) hFc (fun u t H1 locs ht hvm hwr_4 hB hz1 hk1 hS => ?_)
  obtain ⟨q_5, k_6, hP1, hK1, hD1⟩ := hB
  rw [ht] at hP1
  have hK1 := va_K.moved hvm.symm hK1
  have hK := (hK.sub (tys' := [(k_2, .object "SignForms$Stream")]) [0] rfl).app hK1
  obtain ⟨hP, hD⟩ := va_join (wr := [(h0, .inr (3, [.ref q_1, .null, .null])), (q_1, .inl (k_2, 4, .inr (.inr (.inr (.inr (fun _ => none))))))]) (w1 := [(q_3, .inr (0, [.ref q_5, .int 0])), (q_5, .inl (k_6, 6000, .inl (fun _ => 0)))]) hP hD [2] [0, 1] rfl rfl (by decide) (by decide) hk1 hFc hP1 hD1
  generalize H1 = H at hP hS ⊢
  have hP : va_P (dC, dI) vwCl [(h0, .inr (3, [.ref q_1, .null, .null])), (q_1, .inl (k_2, 4, .inr (.inr (.inr (.inr (fun _ => none)))))), (q_3, .inr (0, [.ref q_5, .int 0])), (q_5, .inl (k_6, 6000, .inl (fun _ => 0)))] H := hP
  have hD : va_D A [(h0, .inr (3, [.ref q_1, .null, .null])), (q_1, .inl (k_2, 4, .inr (.inr (.inr (.inr (fun _ => none)))))), (q_3, .inr (0, [.ref q_5, .int 0])), (q_5, .inl (k_6, 6000, .inl (fun _ => 0)))] := hD
  have hK : va_K (dC, dI) vwCl [(k_2, .object "SignForms$Stream"), (k_6, .int)] s := hK
  refine W.widen (k := 3) (n := 6006) (by omega) (by omega) ?_
  refine va_putF (D := (dC, dI)) (ci := 3) (v := .ref q_3) (ty := .object "SignForms$OutRow") (C := RX4) (T := TX4) (N := 3) hx hb hts (by decide +kernel) tyX4 tyX4_ok nmX4 hown hK hP hD hS 0 rfl rfl 1 (by decide) (hts (.fieldLink RX4 18 "SignForms" "outRow" "LSignForms$OutRow;") (by decide +kernel)) (fun _ h9 => h9) rfl hin rfl (by decide +kernel) rfl rfl (Nat.le_of_ble_eq_true rfl) dX4_init_20 (fun H locs hP hD hS => ?_)
  have hP : va_P (dC, dI) vwCl [(h0, .inr (3, [.ref q_1, .ref q_3, .null])), (q_1, .inl (k_2, 4, .inr (.inr (.inr (.inr (fun _ => none)))))), (q_3, .inr (0, [.ref q_5, .int 0])), (q_5, .inl (k_6, 6000, .inl (fun _ => 0)))] H := hP
  have hD : va_D A [(h0, .inr (3, [.ref q_1, .ref q_3, .null])), (q_1, .inl (k_2, 4, .inr (.inr (.inr (.inr (fun _ => none)))))), (q_3, .inr (0, [.ref q_5, .int 0])), (q_5, .inl (k_6, 6000, .inl (fun _ => 0)))] := hD
  refine lv_aload_n hx hb dX4_init_23 rfl (lv_at hl 0 rfl) ?_
  refine va_new (ci := 1) (fs := [.int 0, .int 0, .int 0]) (C := RX2) (T := TX2) (N := 3) hx hb hts (by decide +kernel) tyX2 tyX2_ok hown (hts (.classLink RX4 22 RX2) (by decide +kernel)) (hts (.instantiable RX2 3) (by decide +kernel)) (hts (.initialized RX2) (by decide +kernel)) hK hP hD hS hA rfl (fun j hj => by rcases (show j = 0 ∨ j = 1 ∨ j = 2 by omega) with rfl | rfl | rfl <;> rfl) (Nat.le_of_ble_eq_true rfl) (Nat.le_of_ble_eq_true rfl) dX4_init_24 (fun q_7 H hP hD hS => ?_)
  have hP : va_P (dC, dI) vwCl [(h0, .inr (3, [.ref q_1, .ref q_3, .null])), (q_1, .inl (k_2, 4, .inr (.inr (.inr (.inr (fun _ => none)))))), (q_3, .inr (0, [.ref q_5, .int 0])), (q_5, .inl (k_6, 6000, .inl (fun _ => 0))), (q_7, .inr (1, [.int 0, .int 0, .int 0]))] H := hP
  have hD : va_D A [(h0, .inr (3, [.ref q_1, .ref q_3, .null])), (q_1, .inl (k_2, 4, .inr (.inr (.inr (.inr (fun _ => none)))))), (q_3, .inr (0, [.ref q_5, .int 0])), (q_5, .inl (k_6, 6000, .inl (fun _ => 0))), (q_7, .inr (1, [.int 0, .int 0, .int 0]))] := hD
  refine W.widen (k := 4) (n := 6009) (by omega) (by omega) ?_
  refine lv_dup hx hb dX4_init_27 rfl ?_
  have hPc := hP.sub (ws' := [(q_7, .inr (1, [.int 0, .int 0, .int 0]))]) [4] rfl
  have hKc := hK.sub (tys' := []) [] rfl
  have hDc := hD.sub (ws' := [(q_7, .inr (1, [.int 0, .int 0, .int 0]))]) [4] (by decide) rfl
  have hFc := va_free (wc := [(q_7, .inr (1, [.int 0, .int 0, .int 0]))]) hD hS hA [4] rfl
  refine va_callv (va_runIN (As := []) (rest := [.ref q_7, .ref h0]) ⟨hx, hb, hml, hown, hts⟩ (kX2_init l dC dI q_7 H.size) ⟨va_cnB 0 hts gX4_init_X2_init_n24 rfl rfl rfl hN (hts (.initialized RX2) (by decide +kernel)) (by decide +kernel) ⟨Nat.le_of_ble_eq_true rfl, Nat.le_of_ble_eq_true rfl⟩, rfl, hts (.instanceMethod yX2_init) (by decide +kernel)⟩ ⟨fun a U g mk q => by obtain ⟨q0, q1, qP, qK, qD⟩ := q; exact ⟨q0, q1, qP, va_K.moved (u := U) (U := U.calling g mk a) (Vm.Alike.refl U.vm) qK, qD⟩, fun U hU hW => ⟨rfl, by rw [hU], by rw [hU]; exact hPc, va_K.moved hW.alike hKc, hDc.weaken (fun _ _ _ _ => trivial)⟩⟩ rfl rfl hl.1 rfl (lv_room (Nat.le_of_ble_eq_true rfl)) dX4_init_28 ⟨Nat.le_of_ble_eq_true rfl, Nat.le_of_ble_eq_true rfl⟩) hS (fun q _ h => hFc q h) hFc (fun u t H1 locs ht hvm hwr_8 hB hz1 hk1 hS => ?_)
  obtain ⟨hP1, hK1, hD1⟩ := hB
  rw [ht] at hP1
  obtain ⟨hP, hD⟩ := va_join (wr := [(h0, .inr (3, [.ref q_1, .ref q_3, .null])), (q_1, .inl (k_2, 4, .inr (.inr (.inr (.inr (fun _ => none)))))), (q_3, .inr (0, [.ref q_5, .int 0])), (q_5, .inl (k_6, 6000, .inl (fun _ => 0)))]) (w1 := [(q_7, .inr (1, [.int 0, .int 0, .int 0]))]) hP hD [4] [0, 1, 2, 3] rfl rfl (by decide) (by decide) hk1 hFc hP1 hD1
  generalize H1 = H at hP hS ⊢
  have hP : va_P (dC, dI) vwCl [(h0, .inr (3, [.ref q_1, .ref q_3, .null])), (q_1, .inl (k_2, 4, .inr (.inr (.inr (.inr (fun _ => none)))))), (q_3, .inr (0, [.ref q_5, .int 0])), (q_5, .inl (k_6, 6000, .inl (fun _ => 0))), (q_7, .inr (1, [.int 0, .int 0, .int 0]))] H := hP
  have hD : va_D A [(h0, .inr (3, [.ref q_1, .ref q_3, .null])), (q_1, .inl (k_2, 4, .inr (.inr (.inr (.inr (fun _ => none)))))), (q_3, .inr (0, [.ref q_5, .int 0])), (q_5, .inl (k_6, 6000, .inl (fun _ => 0))), (q_7, .inr (1, [.int 0, .int 0, .int 0]))] := hD
  refine va_putF (D := (dC, dI)) (ci := 3) (v := .ref q_7) (ty := .object "SignForms$Part") (C := RX4) (T := TX4) (N := 3) hx hb hts (by decide +kernel) tyX4 tyX4_ok nmX4 hown hK hP hD hS 0 rfl rfl 2 (by decide) (hts (.fieldLink RX4 25 "SignForms" "part" "LSignForms$Part;") (by decide +kernel)) (fun _ h9 => h9) rfl hin rfl (by decide +kernel) rfl rfl (Nat.le_of_ble_eq_true rfl) dX4_init_31 (fun H locs hP hD hS => ?_)
  have hP : va_P (dC, dI) vwCl [(h0, .inr (3, [.ref q_1, .ref q_3, .ref q_7])), (q_1, .inl (k_2, 4, .inr (.inr (.inr (.inr (fun _ => none)))))), (q_3, .inr (0, [.ref q_5, .int 0])), (q_5, .inl (k_6, 6000, .inl (fun _ => 0))), (q_7, .inr (1, [.int 0, .int 0, .int 0]))] H := hP
  have hD : va_D A [(h0, .inr (3, [.ref q_1, .ref q_3, .ref q_7])), (q_1, .inl (k_2, 4, .inr (.inr (.inr (.inr (fun _ => none)))))), (q_3, .inr (0, [.ref q_5, .int 0])), (q_5, .inl (k_6, 6000, .inl (fun _ => 0))), (q_7, .inr (1, [.int 0, .int 0, .int 0]))] := hD
  have hP9 := hP.sub (ws' := [(h0, .inr (3, [.ref q_1, .ref q_3, .ref q_7])), (q_1, .inl (k_2, 4, .inr (.inr (.inr (.inr (fun _ => none)))))), (q_3, .inr (0, [.ref q_5, .int 0])), (q_5, .inl (k_6, 6000, .inl (fun _ => 0))), (q_7, .inr (1, [.int 0, .int 0, .int 0]))]) [0, 1, 2, 3, 4] rfl
  have hD9 := hD.sub (ws' := [(h0, .inr (3, [.ref q_1, .ref q_3, .ref q_7])), (q_1, .inl (k_2, 4, .inr (.inr (.inr (.inr (fun _ => none)))))), (q_3, .inr (0, [.ref q_5, .int 0])), (q_5, .inl (k_6, 6000, .inl (fun _ => 0))), (q_7, .inr (1, [.int 0, .int 0, .int 0]))]) [0, 1, 2, 3, 4] (by decide) rfl
  have hK9 := hK.sub (tys' := [(k_2, .object "SignForms$Stream"), (k_6, .int)]) [0, 1] rfl
  refine W.widen (k := 4) (n := 6009) (by omega) (by omega) ?_
  exact W.vret hx hb hr (fun t ht hW => ⟨⟨(), rfl, trivial, q_1, q_3, q_5, q_7, k_2, k_6, by rw [ht]; exact hP9, va_K.moved hW.alike hK9, hD9⟩, hS.F ht⟩) hS.2.2 dX4_init_34
end
section
set_option maxHeartbeats 4000000 in
set_option maxRecDepth 100000 in
theorem kX5_init (l : Launch) (dC : Nat → ClassId) (dI : Nat → Nat → Nat) (g0 : Nat) (sz : Nat) : Met l yX5_init wsX5_init ({ frames := 1, cells := 19, slots := 52048, locals := 12 } : Room) (va_Pc [.ref g0] (fun U => U.heap.size = sz ∧ va_P (dC, dI) vwCl [(g0, .inr (4, [.null, .null, .null, .null, .null, .null, .null, .null, .null, .null, .null, .null, .null, .null, .null, .null, .null, .null, .int 0, .null, .int 0, .int 0, .int 0]))] U.heap ∧ va_K (dC, dI) vwCl [] U ∧ va_D (fun _ => True) [(g0, .inr (4, [.null, .null, .null, .null, .null, .null, .null, .null, .null, .null, .null, .null, .null, .null, .null, .null, .null, .null, .int 0, .null, .int 0, .int 0, .int 0]))])) (va_Qv (fun (_ : Unit) => True) (fun _ t => ∃ (g1 g2 g3 g4 g5 g6 g7 g8 g9 g10 g11 g12 g13 g14 g15 g16 g17 g18 g19 : Nat) (kG1 kG2 kG3 kG4 kG5 kG6 kG7 kG8 kG9 kG10 kG11 kG12 : ClassId), va_P (dC, dI) vwCl [(g0, .inr (4, [.ref g1, .ref g2, .ref g3, .ref g4, .ref g5, .ref g6, .ref g7, .ref g8, .ref g9, .ref g10, .ref g11, .ref g12, .ref g13, .ref g14, .ref g15, .ref g16, .ref g17, .ref g18, .int 0, .ref g19, .int 0, .int 0, .int 0])), (g1, .inl (kG1, 4, .inl (fun _ => 0))), (g2, .inl (kG2, 4, .inl (fun _ => 0))), (g3, .inl (kG3, 4, .inl (fun _ => 0))), (g4, .inl (kG4, 4, .inl (fun _ => 0))), (g5, .inl (kG5, 4, .inl (fun _ => 0))), (g7, .inl (kG6, 4, .inl (fun _ => 0))), (g12, .inl (kG7, 4, .inl (fun _ => 0))), (g13, .inl (kG8, 4, .inl (fun _ => 0))), (g14, .inl (kG9, 4, .inl (fun _ => 0))), (g15, .inl (kG10, 4, .inl (fun _ => 0))), (g16, .inl (kG11, 4, .inl (fun _ => 0))), (g17, .inl (kG12, 4, .inl (fun _ => 0)))] t.heap ∧ va_K (dC, dI) vwCl [(kG1, .boolean), (kG2, .boolean), (kG3, .int), (kG4, .int), (kG5, .int), (kG6, .int), (kG7, .int), (kG8, .int), (kG9, .int), (kG10, .int), (kG11, .int), (kG12, .boolean)] t ∧ va_D (va_A [(g0, .inr (4, [.null, .null, .null, .null, .null, .null, .null, .null, .null, .null, .null, .null, .null, .null, .null, .null, .null, .null, .int 0, .null, .int 0, .int 0, .int 0]))] sz) [(g0, .inr (4, [.ref g1, .ref g2, .ref g3, .ref g4, .ref g5, .ref g6, .ref g7, .ref g8, .ref g9, .ref g10, .ref g11, .ref g12, .ref g13, .ref g14, .ref g15, .ref g16, .ref g17, .ref g18, .int 0, .ref g19, .int 0, .int 0, .int 0])), (g1, .inl (kG1, 4, .inl (fun _ => 0))), (g2, .inl (kG2, 4, .inl (fun _ => 0))), (g3, .inl (kG3, 4, .inl (fun _ => 0))), (g4, .inl (kG4, 4, .inl (fun _ => 0))), (g5, .inl (kG5, 4, .inl (fun _ => 0))), (g7, .inl (kG6, 4, .inl (fun _ => 0))), (g12, .inl (kG7, 4, .inl (fun _ => 0))), (g13, .inl (kG8, 4, .inl (fun _ => 0))), (g14, .inl (kG9, 4, .inl (fun _ => 0))), (g15, .inl (kG10, 4, .inl (fun _ => 0))), (g16, .inl (kG11, 4, .inl (fun _ => 0))), (g17, .inl (kG12, 4, .inl (fun _ => 0)))]) (va_A [(g0, .inr (4, [.null, .null, .null, .null, .null, .null, .null, .null, .null, .null, .null, .null, .null, .null, .null, .null, .null, .null, .int 0, .null, .int 0, .int 0, .int 0]))] sz)) 19 52048 (va_A [(g0, .inr (4, [.null, .null, .null, .null, .null, .null, .null, .null, .null, .null, .null, .null, .null, .null, .null, .null, .null, .null, .int 0, .null, .int 0, .int 0, .int 0]))] sz) := by
  refine Met.ofW (cc := cX5_init) (maxL := 1) (ret := none) (by decide) rfl ?_
  intro p e s m args below meth c s₁ B hml hv
  obtain ⟨rfl, hsz, hP, hK, hD0⟩ := hv
  have hx := B.exec
  have hb := B.bytes
  have hr := B.returns
  have hts := atoms_spec (ws := wsX5_init) B.pre
  have hown : s.vm.findClass RX5 = some m.cls := findClass_of_methodNamed B.named
  have hlocks := B.notSynchronized
  have hin : meth.name = "<init>" := (name_of_methodNamed B.named B.method).1
  subst hsz
  have hD := hD0.self (sz := s.heap.size)
  generalize hAe : va_A [(g0, .inr (4, [.null, .null, .null, .null, .null, .null, .null, .null, .null, .null, .null, .null, .null, .null, .null, .null, .null, .null, .int 0, .null, .int 0, .int 0, .int 0]))] s.heap.size = A at hD ⊢
  have hA : ∀ q : Nat, s.heap.size ≤ q → A q := fun q h => by rw [← hAe]; exact Or.inr h
  have hS : va_S A s.heap s.heap [] := va_S.rf
  have hl := lv_entry ([.ref g0]) (n := 1) (Nat.le_of_ble_eq_true rfl)
  rw [lg_entry_eq]
  generalize (lg_sl ([.ref g0]) ++ List.replicate (1 - (lg_sl ([.ref g0])).length) Slot.unset).toArray = ls at hl ⊢
  have hl : lv_has ls 1 [(0, .ref g0)] := hl
  refine lv_aload_n hx hb dX5_init_0 rfl (lv_at hl 0 rfl) ?_
  refine W.objInit hx hb hown (hts (.methodLink RX5 1 objectInit) (by decide +kernel)) (hts (.instanceMethod objectInit) (by decide +kernel)) (hts (.code objectInit ⟨#[0xb1]⟩ 1 none) (by decide +kernel)) rfl (by rw [hml]; exact hl.1) rfl dX5_init_1 (Nat.le_of_ble_eq_true rfl) (Nat.le_of_ble_eq_true rfl) ?_
  refine W.eq (g2 := F0 m 4 ls []) rfl ?_
  refine lv_aload_n hx hb dX5_init_4 rfl (lv_at hl 0 rfl) ?_
  refine lv_iconst (v := 4) hx hb dX5_init_5 (by decide) ?_
  refine va_newa (atype := .boolean) (ty := .boolean) (a0 := (4, .inl (fun _ => 0))) (N' := 4) hx hb (hts (.arrayClass .boolean) (by decide +kernel)) rfl hK hP hD hS hA (fun cA => vp_cell_i cA 4 (fun _ => 0)) (by decide +kernel) (by decide +kernel) (by decide +kernel) (Nat.le_of_ble_eq_true rfl) (Nat.le_of_ble_eq_true rfl) dX5_init_6 (fun q_1 k_2 H hK hP hD hS => ?_)
  have hP : va_P (dC, dI) vwCl [(g0, .inr (4, [.null, .null, .null, .null, .null, .null, .null, .null, .null, .null, .null, .null, .null, .null, .null, .null, .null, .null, .int 0, .null, .int 0, .int 0, .int 0])), (q_1, .inl (k_2, 4, .inl (fun _ => 0)))] H := hP
  have hD : va_D A [(g0, .inr (4, [.null, .null, .null, .null, .null, .null, .null, .null, .null, .null, .null, .null, .null, .null, .null, .null, .null, .null, .int 0, .null, .int 0, .int 0, .int 0])), (q_1, .inl (k_2, 4, .inl (fun _ => 0)))] := hD
  have hK : va_K (dC, dI) vwCl [(k_2, .boolean)] s := hK
  refine W.widen (k := 1) (n := 4) (by omega) (by omega) ?_
  refine va_putF (D := (dC, dI)) (ci := 4) (v := .ref q_1) (ty := .array (.boolean)) (C := RX5) (T := TX5) (N := 23) hx hb hts (by decide +kernel) tyX5 tyX5_ok nmX5 hown hK hP hD hS 0 rfl rfl 0 (by decide) (hts (.fieldLink RX5 7 "SignFormsModel" "isOpen" "[Z") (by decide +kernel)) (fun _ h9 => h9) rfl hin rfl (by decide +kernel) rfl rfl (Nat.le_of_ble_eq_true rfl) dX5_init_8 (fun H locs hP hD hS => ?_)
  have hP : va_P (dC, dI) vwCl [(g0, .inr (4, [.ref q_1, .null, .null, .null, .null, .null, .null, .null, .null, .null, .null, .null, .null, .null, .null, .null, .null, .null, .int 0, .null, .int 0, .int 0, .int 0])), (q_1, .inl (k_2, 4, .inl (fun _ => 0)))] H := hP
  have hD : va_D A [(g0, .inr (4, [.ref q_1, .null, .null, .null, .null, .null, .null, .null, .null, .null, .null, .null, .null, .null, .null, .null, .null, .null, .int 0, .null, .int 0, .int 0, .int 0])), (q_1, .inl (k_2, 4, .inl (fun _ => 0)))] := hD
  refine lv_aload_n hx hb dX5_init_11 rfl (lv_at hl 0 rfl) ?_
  refine lv_iconst (v := 4) hx hb dX5_init_12 (by decide) ?_
  refine va_newa (atype := .boolean) (ty := .boolean) (a0 := (4, .inl (fun _ => 0))) (N' := 4) hx hb (hts (.arrayClass .boolean) (by decide +kernel)) rfl hK hP hD hS hA (fun cA => vp_cell_i cA 4 (fun _ => 0)) (by decide +kernel) (by decide +kernel) (by decide +kernel) (Nat.le_of_ble_eq_true rfl) (Nat.le_of_ble_eq_true rfl) dX5_init_13 (fun q_3 k_4 H hK hP hD hS => ?_)
  have hP : va_P (dC, dI) vwCl [(g0, .inr (4, [.ref q_1, .null, .null, .null, .null, .null, .null, .null, .null, .null, .null, .null, .null, .null, .null, .null, .null, .null, .int 0, .null, .int 0, .int 0, .int 0])), (q_1, .inl (k_2, 4, .inl (fun _ => 0))), (q_3, .inl (k_4, 4, .inl (fun _ => 0)))] H := hP
  have hD : va_D A [(g0, .inr (4, [.ref q_1, .null, .null, .null, .null, .null, .null, .null, .null, .null, .null, .null, .null, .null, .null, .null, .null, .null, .int 0, .null, .int 0, .int 0, .int 0])), (q_1, .inl (k_2, 4, .inl (fun _ => 0))), (q_3, .inl (k_4, 4, .inl (fun _ => 0)))] := hD
  have hK : va_K (dC, dI) vwCl [(k_2, .boolean), (k_4, .boolean)] s := hK
  refine W.widen (k := 2) (n := 8) (by omega) (by omega) ?_
  refine va_putF (D := (dC, dI)) (ci := 4) (v := .ref q_3) (ty := .array (.boolean)) (C := RX5) (T := TX5) (N := 23) hx hb hts (by decide +kernel) tyX5 tyX5_ok nmX5 hown hK hP hD hS 0 rfl rfl 1 (by decide) (hts (.fieldLink RX5 13 "SignFormsModel" "isEnded" "[Z") (by decide +kernel)) (fun _ h9 => h9) rfl hin rfl (by decide +kernel) rfl rfl (Nat.le_of_ble_eq_true rfl) dX5_init_15 (fun H locs hP hD hS => ?_)
  have hP : va_P (dC, dI) vwCl [(g0, .inr (4, [.ref q_1, .ref q_3, .null, .null, .null, .null, .null, .null, .null, .null, .null, .null, .null, .null, .null, .null, .null, .null, .int 0, .null, .int 0, .int 0, .int 0])), (q_1, .inl (k_2, 4, .inl (fun _ => 0))), (q_3, .inl (k_4, 4, .inl (fun _ => 0)))] H := hP
  have hD : va_D A [(g0, .inr (4, [.ref q_1, .ref q_3, .null, .null, .null, .null, .null, .null, .null, .null, .null, .null, .null, .null, .null, .null, .null, .null, .int 0, .null, .int 0, .int 0, .int 0])), (q_1, .inl (k_2, 4, .inl (fun _ => 0))), (q_3, .inl (k_4, 4, .inl (fun _ => 0)))] := hD
  refine lv_aload_n hx hb dX5_init_18 rfl (lv_at hl 0 rfl) ?_
  refine lv_iconst (v := 4) hx hb dX5_init_19 (by decide) ?_
  refine va_newa (atype := .int) (ty := .int) (a0 := (4, .inl (fun _ => 0))) (N' := 4) hx hb (hts (.arrayClass .int) (by decide +kernel)) rfl hK hP hD hS hA (fun cA => vp_cell_i cA 4 (fun _ => 0)) (by decide +kernel) (by decide +kernel) (by decide +kernel) (Nat.le_of_ble_eq_true rfl) (Nat.le_of_ble_eq_true rfl) dX5_init_20 (fun q_5 k_6 H hK hP hD hS => ?_)
  have hP : va_P (dC, dI) vwCl [(g0, .inr (4, [.ref q_1, .ref q_3, .null, .null, .null, .null, .null, .null, .null, .null, .null, .null, .null, .null, .null, .null, .null, .null, .int 0, .null, .int 0, .int 0, .int 0])), (q_1, .inl (k_2, 4, .inl (fun _ => 0))), (q_3, .inl (k_4, 4, .inl (fun _ => 0))), (q_5, .inl (k_6, 4, .inl (fun _ => 0)))] H := hP
  have hD : va_D A [(g0, .inr (4, [.ref q_1, .ref q_3, .null, .null, .null, .null, .null, .null, .null, .null, .null, .null, .null, .null, .null, .null, .null, .null, .int 0, .null, .int 0, .int 0, .int 0])), (q_1, .inl (k_2, 4, .inl (fun _ => 0))), (q_3, .inl (k_4, 4, .inl (fun _ => 0))), (q_5, .inl (k_6, 4, .inl (fun _ => 0)))] := hD
  have hK : va_K (dC, dI) vwCl [(k_2, .boolean), (k_4, .boolean), (k_6, .int)] s := hK
  refine W.widen (k := 3) (n := 12) (by omega) (by omega) ?_
  refine va_putF (D := (dC, dI)) (ci := 4) (v := .ref q_5) (ty := .array (.int)) (C := RX5) (T := TX5) (N := 23) hx hb hts (by decide +kernel) tyX5 tyX5_ok nmX5 hown hK hP hD hS 0 rfl rfl 2 (by decide) (hts (.fieldLink RX5 16 "SignFormsModel" "told" "[I") (by decide +kernel)) (fun _ h9 => h9) rfl hin rfl (by decide +kernel) rfl rfl (Nat.le_of_ble_eq_true rfl) dX5_init_22 (fun H locs hP hD hS => ?_)
  have hP : va_P (dC, dI) vwCl [(g0, .inr (4, [.ref q_1, .ref q_3, .ref q_5, .null, .null, .null, .null, .null, .null, .null, .null, .null, .null, .null, .null, .null, .null, .null, .int 0, .null, .int 0, .int 0, .int 0])), (q_1, .inl (k_2, 4, .inl (fun _ => 0))), (q_3, .inl (k_4, 4, .inl (fun _ => 0))), (q_5, .inl (k_6, 4, .inl (fun _ => 0)))] H := hP
  have hD : va_D A [(g0, .inr (4, [.ref q_1, .ref q_3, .ref q_5, .null, .null, .null, .null, .null, .null, .null, .null, .null, .null, .null, .null, .null, .null, .null, .int 0, .null, .int 0, .int 0, .int 0])), (q_1, .inl (k_2, 4, .inl (fun _ => 0))), (q_3, .inl (k_4, 4, .inl (fun _ => 0))), (q_5, .inl (k_6, 4, .inl (fun _ => 0)))] := hD
  refine lv_aload_n hx hb dX5_init_25 rfl (lv_at hl 0 rfl) ?_
  refine lv_iconst (v := 4) hx hb dX5_init_26 (by decide) ?_
  refine va_newa (atype := .int) (ty := .int) (a0 := (4, .inl (fun _ => 0))) (N' := 4) hx hb (hts (.arrayClass .int) (by decide +kernel)) rfl hK hP hD hS hA (fun cA => vp_cell_i cA 4 (fun _ => 0)) (by decide +kernel) (by decide +kernel) (by decide +kernel) (Nat.le_of_ble_eq_true rfl) (Nat.le_of_ble_eq_true rfl) dX5_init_27 (fun q_7 k_8 H hK hP hD hS => ?_)
  have hP : va_P (dC, dI) vwCl [(g0, .inr (4, [.ref q_1, .ref q_3, .ref q_5, .null, .null, .null, .null, .null, .null, .null, .null, .null, .null, .null, .null, .null, .null, .null, .int 0, .null, .int 0, .int 0, .int 0])), (q_1, .inl (k_2, 4, .inl (fun _ => 0))), (q_3, .inl (k_4, 4, .inl (fun _ => 0))), (q_5, .inl (k_6, 4, .inl (fun _ => 0))), (q_7, .inl (k_8, 4, .inl (fun _ => 0)))] H := hP
  have hD : va_D A [(g0, .inr (4, [.ref q_1, .ref q_3, .ref q_5, .null, .null, .null, .null, .null, .null, .null, .null, .null, .null, .null, .null, .null, .null, .null, .int 0, .null, .int 0, .int 0, .int 0])), (q_1, .inl (k_2, 4, .inl (fun _ => 0))), (q_3, .inl (k_4, 4, .inl (fun _ => 0))), (q_5, .inl (k_6, 4, .inl (fun _ => 0))), (q_7, .inl (k_8, 4, .inl (fun _ => 0)))] := hD
  have hK : va_K (dC, dI) vwCl [(k_2, .boolean), (k_4, .boolean), (k_6, .int), (k_8, .int)] s := hK
  refine W.widen (k := 4) (n := 16) (by omega) (by omega) ?_
  refine va_putF (D := (dC, dI)) (ci := 4) (v := .ref q_7) (ty := .array (.int)) (C := RX5) (T := TX5) (N := 23) hx hb hts (by decide +kernel) tyX5 tyX5_ok nmX5 hown hK hP hD hS 0 rfl rfl 3 (by decide) (hts (.fieldLink RX5 20 "SignFormsModel" "form" "[I") (by decide +kernel)) (fun _ h9 => h9) rfl hin rfl (by decide +kernel) rfl rfl (Nat.le_of_ble_eq_true rfl) dX5_init_29 (fun H locs hP hD hS => ?_)
  have hP : va_P (dC, dI) vwCl [(g0, .inr (4, [.ref q_1, .ref q_3, .ref q_5, .ref q_7, .null, .null, .null, .null, .null, .null, .null, .null, .null, .null, .null, .null, .null, .null, .int 0, .null, .int 0, .int 0, .int 0])), (q_1, .inl (k_2, 4, .inl (fun _ => 0))), (q_3, .inl (k_4, 4, .inl (fun _ => 0))), (q_5, .inl (k_6, 4, .inl (fun _ => 0))), (q_7, .inl (k_8, 4, .inl (fun _ => 0)))] H := hP
  have hD : va_D A [(g0, .inr (4, [.ref q_1, .ref q_3, .ref q_5, .ref q_7, .null, .null, .null, .null, .null, .null, .null, .null, .null, .null, .null, .null, .null, .null, .int 0, .null, .int 0, .int 0, .int 0])), (q_1, .inl (k_2, 4, .inl (fun _ => 0))), (q_3, .inl (k_4, 4, .inl (fun _ => 0))), (q_5, .inl (k_6, 4, .inl (fun _ => 0))), (q_7, .inl (k_8, 4, .inl (fun _ => 0)))] := hD
  refine lv_aload_n hx hb dX5_init_32 rfl (lv_at hl 0 rfl) ?_
  refine lv_iconst (v := 4) hx hb dX5_init_33 (by decide) ?_
  refine va_newa (atype := .int) (ty := .int) (a0 := (4, .inl (fun _ => 0))) (N' := 4) hx hb (hts (.arrayClass .int) (by decide +kernel)) rfl hK hP hD hS hA (fun cA => vp_cell_i cA 4 (fun _ => 0)) (by decide +kernel) (by decide +kernel) (by decide +kernel) (Nat.le_of_ble_eq_true rfl) (Nat.le_of_ble_eq_true rfl) dX5_init_34 (fun q_9 k_10 H hK hP hD hS => ?_)
  have hP : va_P (dC, dI) vwCl [(g0, .inr (4, [.ref q_1, .ref q_3, .ref q_5, .ref q_7, .null, .null, .null, .null, .null, .null, .null, .null, .null, .null, .null, .null, .null, .null, .int 0, .null, .int 0, .int 0, .int 0])), (q_1, .inl (k_2, 4, .inl (fun _ => 0))), (q_3, .inl (k_4, 4, .inl (fun _ => 0))), (q_5, .inl (k_6, 4, .inl (fun _ => 0))), (q_7, .inl (k_8, 4, .inl (fun _ => 0))), (q_9, .inl (k_10, 4, .inl (fun _ => 0)))] H := hP
  have hD : va_D A [(g0, .inr (4, [.ref q_1, .ref q_3, .ref q_5, .ref q_7, .null, .null, .null, .null, .null, .null, .null, .null, .null, .null, .null, .null, .null, .null, .int 0, .null, .int 0, .int 0, .int 0])), (q_1, .inl (k_2, 4, .inl (fun _ => 0))), (q_3, .inl (k_4, 4, .inl (fun _ => 0))), (q_5, .inl (k_6, 4, .inl (fun _ => 0))), (q_7, .inl (k_8, 4, .inl (fun _ => 0))), (q_9, .inl (k_10, 4, .inl (fun _ => 0)))] := hD
  have hK : va_K (dC, dI) vwCl [(k_2, .boolean), (k_4, .boolean), (k_6, .int), (k_8, .int), (k_10, .int)] s := hK
  refine W.widen (k := 5) (n := 20) (by omega) (by omega) ?_
  refine va_putF (D := (dC, dI)) (ci := 4) (v := .ref q_9) (ty := .array (.int)) (C := RX5) (T := TX5) (N := 23) hx hb hts (by decide +kernel) tyX5 tyX5_ok nmX5 hown hK hP hD hS 0 rfl rfl 4 (by decide) (hts (.fieldLink RX5 23 "SignFormsModel" "policy" "[I") (by decide +kernel)) (fun _ h9 => h9) rfl hin rfl (by decide +kernel) rfl rfl (Nat.le_of_ble_eq_true rfl) dX5_init_36 (fun H locs hP hD hS => ?_)
  have hP : va_P (dC, dI) vwCl [(g0, .inr (4, [.ref q_1, .ref q_3, .ref q_5, .ref q_7, .ref q_9, .null, .null, .null, .null, .null, .null, .null, .null, .null, .null, .null, .null, .null, .int 0, .null, .int 0, .int 0, .int 0])), (q_1, .inl (k_2, 4, .inl (fun _ => 0))), (q_3, .inl (k_4, 4, .inl (fun _ => 0))), (q_5, .inl (k_6, 4, .inl (fun _ => 0))), (q_7, .inl (k_8, 4, .inl (fun _ => 0))), (q_9, .inl (k_10, 4, .inl (fun _ => 0)))] H := hP
  have hD : va_D A [(g0, .inr (4, [.ref q_1, .ref q_3, .ref q_5, .ref q_7, .ref q_9, .null, .null, .null, .null, .null, .null, .null, .null, .null, .null, .null, .null, .null, .int 0, .null, .int 0, .int 0, .int 0])), (q_1, .inl (k_2, 4, .inl (fun _ => 0))), (q_3, .inl (k_4, 4, .inl (fun _ => 0))), (q_5, .inl (k_6, 4, .inl (fun _ => 0))), (q_7, .inl (k_8, 4, .inl (fun _ => 0))), (q_9, .inl (k_10, 4, .inl (fun _ => 0)))] := hD
  refine lv_aload_n hx hb dX5_init_39 rfl (lv_at hl 0 rfl) ?_
  refine lv_sipush (v := 8000) hx hb dX5_init_40 (by decide +kernel) ?_
  refine va_newa (atype := .int) (ty := .int) (a0 := (8000, .inl (fun _ => 0))) (N' := 8000) hx hb (hts (.arrayClass .int) (by decide +kernel)) rfl hK hP hD hS hA (fun cA => vp_cell_i cA 8000 (fun _ => 0)) (by decide +kernel) (by decide +kernel) (by decide +kernel) (Nat.le_of_ble_eq_true rfl) (Nat.le_of_ble_eq_true rfl) dX5_init_43 (fun q_11 k_12 H hK hP hD hS => ?_)
  have hP : va_P (dC, dI) vwCl [(g0, .inr (4, [.ref q_1, .ref q_3, .ref q_5, .ref q_7, .ref q_9, .null, .null, .null, .null, .null, .null, .null, .null, .null, .null, .null, .null, .null, .int 0, .null, .int 0, .int 0, .int 0])), (q_1, .inl (k_2, 4, .inl (fun _ => 0))), (q_3, .inl (k_4, 4, .inl (fun _ => 0))), (q_5, .inl (k_6, 4, .inl (fun _ => 0))), (q_7, .inl (k_8, 4, .inl (fun _ => 0))), (q_9, .inl (k_10, 4, .inl (fun _ => 0))), (q_11, .inl (k_12, 8000, .inl (fun _ => 0)))] H := hP
  have hD : va_D A [(g0, .inr (4, [.ref q_1, .ref q_3, .ref q_5, .ref q_7, .ref q_9, .null, .null, .null, .null, .null, .null, .null, .null, .null, .null, .null, .null, .null, .int 0, .null, .int 0, .int 0, .int 0])), (q_1, .inl (k_2, 4, .inl (fun _ => 0))), (q_3, .inl (k_4, 4, .inl (fun _ => 0))), (q_5, .inl (k_6, 4, .inl (fun _ => 0))), (q_7, .inl (k_8, 4, .inl (fun _ => 0))), (q_9, .inl (k_10, 4, .inl (fun _ => 0))), (q_11, .inl (k_12, 8000, .inl (fun _ => 0)))] := hD
  have hK : va_K (dC, dI) vwCl [(k_2, .boolean), (k_4, .boolean), (k_6, .int), (k_8, .int), (k_10, .int), (k_12, .int)] s := hK
  refine W.widen (k := 6) (n := 8020) (by omega) (by omega) ?_
  refine va_putF (D := (dC, dI)) (ci := 4) (v := .ref q_11) (ty := .array (.int)) (C := RX5) (T := TX5) (N := 23) hx hb hts (by decide +kernel) tyX5 tyX5_ok nmX5 hown hK hP hD hS 0 rfl rfl 5 (by decide) (hts (.fieldLink RX5 26 "SignFormsModel" "came" "[I") (by decide +kernel)) (fun _ h9 => h9) rfl hin rfl (by decide +kernel) rfl rfl (Nat.le_of_ble_eq_true rfl) dX5_init_45 (fun H locs hP hD hS => ?_)
  have hP : va_P (dC, dI) vwCl [(g0, .inr (4, [.ref q_1, .ref q_3, .ref q_5, .ref q_7, .ref q_9, .ref q_11, .null, .null, .null, .null, .null, .null, .null, .null, .null, .null, .null, .null, .int 0, .null, .int 0, .int 0, .int 0])), (q_1, .inl (k_2, 4, .inl (fun _ => 0))), (q_3, .inl (k_4, 4, .inl (fun _ => 0))), (q_5, .inl (k_6, 4, .inl (fun _ => 0))), (q_7, .inl (k_8, 4, .inl (fun _ => 0))), (q_9, .inl (k_10, 4, .inl (fun _ => 0))), (q_11, .inl (k_12, 8000, .inl (fun _ => 0)))] H := hP
  have hD : va_D A [(g0, .inr (4, [.ref q_1, .ref q_3, .ref q_5, .ref q_7, .ref q_9, .ref q_11, .null, .null, .null, .null, .null, .null, .null, .null, .null, .null, .null, .null, .int 0, .null, .int 0, .int 0, .int 0])), (q_1, .inl (k_2, 4, .inl (fun _ => 0))), (q_3, .inl (k_4, 4, .inl (fun _ => 0))), (q_5, .inl (k_6, 4, .inl (fun _ => 0))), (q_7, .inl (k_8, 4, .inl (fun _ => 0))), (q_9, .inl (k_10, 4, .inl (fun _ => 0))), (q_11, .inl (k_12, 8000, .inl (fun _ => 0)))] := hD
  refine lv_aload_n hx hb dX5_init_48 rfl (lv_at hl 0 rfl) ?_
  refine lv_iconst (v := 4) hx hb dX5_init_49 (by decide) ?_
  refine va_newa (atype := .int) (ty := .int) (a0 := (4, .inl (fun _ => 0))) (N' := 4) hx hb (hts (.arrayClass .int) (by decide +kernel)) rfl hK hP hD hS hA (fun cA => vp_cell_i cA 4 (fun _ => 0)) (by decide +kernel) (by decide +kernel) (by decide +kernel) (Nat.le_of_ble_eq_true rfl) (Nat.le_of_ble_eq_true rfl) dX5_init_50 (fun q_13 k_14 H hK hP hD hS => ?_)
  have hP : va_P (dC, dI) vwCl [(g0, .inr (4, [.ref q_1, .ref q_3, .ref q_5, .ref q_7, .ref q_9, .ref q_11, .null, .null, .null, .null, .null, .null, .null, .null, .null, .null, .null, .null, .int 0, .null, .int 0, .int 0, .int 0])), (q_1, .inl (k_2, 4, .inl (fun _ => 0))), (q_3, .inl (k_4, 4, .inl (fun _ => 0))), (q_5, .inl (k_6, 4, .inl (fun _ => 0))), (q_7, .inl (k_8, 4, .inl (fun _ => 0))), (q_9, .inl (k_10, 4, .inl (fun _ => 0))), (q_11, .inl (k_12, 8000, .inl (fun _ => 0))), (q_13, .inl (k_14, 4, .inl (fun _ => 0)))] H := hP
  have hD : va_D A [(g0, .inr (4, [.ref q_1, .ref q_3, .ref q_5, .ref q_7, .ref q_9, .ref q_11, .null, .null, .null, .null, .null, .null, .null, .null, .null, .null, .null, .null, .int 0, .null, .int 0, .int 0, .int 0])), (q_1, .inl (k_2, 4, .inl (fun _ => 0))), (q_3, .inl (k_4, 4, .inl (fun _ => 0))), (q_5, .inl (k_6, 4, .inl (fun _ => 0))), (q_7, .inl (k_8, 4, .inl (fun _ => 0))), (q_9, .inl (k_10, 4, .inl (fun _ => 0))), (q_11, .inl (k_12, 8000, .inl (fun _ => 0))), (q_13, .inl (k_14, 4, .inl (fun _ => 0)))] := hD
  have hK : va_K (dC, dI) vwCl [(k_2, .boolean), (k_4, .boolean), (k_6, .int), (k_8, .int), (k_10, .int), (k_12, .int), (k_14, .int)] s := hK
  refine W.widen (k := 7) (n := 8024) (by omega) (by omega) ?_
  refine va_putF (D := (dC, dI)) (ci := 4) (v := .ref q_13) (ty := .array (.int)) (C := RX5) (T := TX5) (N := 23) hx hb hts (by decide +kernel) tyX5 tyX5_ok nmX5 hown hK hP hD hS 0 rfl rfl 6 (by decide) (hts (.fieldLink RX5 29 "SignFormsModel" "many" "[I") (by decide +kernel)) (fun _ h9 => h9) rfl hin rfl (by decide +kernel) rfl rfl (Nat.le_of_ble_eq_true rfl) dX5_init_52 (fun H locs hP hD hS => ?_)
  have hP : va_P (dC, dI) vwCl [(g0, .inr (4, [.ref q_1, .ref q_3, .ref q_5, .ref q_7, .ref q_9, .ref q_11, .ref q_13, .null, .null, .null, .null, .null, .null, .null, .null, .null, .null, .null, .int 0, .null, .int 0, .int 0, .int 0])), (q_1, .inl (k_2, 4, .inl (fun _ => 0))), (q_3, .inl (k_4, 4, .inl (fun _ => 0))), (q_5, .inl (k_6, 4, .inl (fun _ => 0))), (q_7, .inl (k_8, 4, .inl (fun _ => 0))), (q_9, .inl (k_10, 4, .inl (fun _ => 0))), (q_11, .inl (k_12, 8000, .inl (fun _ => 0))), (q_13, .inl (k_14, 4, .inl (fun _ => 0)))] H := hP
  have hD : va_D A [(g0, .inr (4, [.ref q_1, .ref q_3, .ref q_5, .ref q_7, .ref q_9, .ref q_11, .ref q_13, .null, .null, .null, .null, .null, .null, .null, .null, .null, .null, .null, .int 0, .null, .int 0, .int 0, .int 0])), (q_1, .inl (k_2, 4, .inl (fun _ => 0))), (q_3, .inl (k_4, 4, .inl (fun _ => 0))), (q_5, .inl (k_6, 4, .inl (fun _ => 0))), (q_7, .inl (k_8, 4, .inl (fun _ => 0))), (q_9, .inl (k_10, 4, .inl (fun _ => 0))), (q_11, .inl (k_12, 8000, .inl (fun _ => 0))), (q_13, .inl (k_14, 4, .inl (fun _ => 0)))] := hD
  refine lv_aload_n hx hb dX5_init_55 rfl (lv_at hl 0 rfl) ?_
  refine lv_sipush (v := 8000) hx hb dX5_init_56 (by decide +kernel) ?_
  refine va_newa (atype := .int) (ty := .int) (a0 := (8000, .inl (fun _ => 0))) (N' := 8000) hx hb (hts (.arrayClass .int) (by decide +kernel)) rfl hK hP hD hS hA (fun cA => vp_cell_i cA 8000 (fun _ => 0)) (by decide +kernel) (by decide +kernel) (by decide +kernel) (Nat.le_of_ble_eq_true rfl) (Nat.le_of_ble_eq_true rfl) dX5_init_59 (fun q_15 k_16 H hK hP hD hS => ?_)
  have hP : va_P (dC, dI) vwCl [(g0, .inr (4, [.ref q_1, .ref q_3, .ref q_5, .ref q_7, .ref q_9, .ref q_11, .ref q_13, .null, .null, .null, .null, .null, .null, .null, .null, .null, .null, .null, .int 0, .null, .int 0, .int 0, .int 0])), (q_1, .inl (k_2, 4, .inl (fun _ => 0))), (q_3, .inl (k_4, 4, .inl (fun _ => 0))), (q_5, .inl (k_6, 4, .inl (fun _ => 0))), (q_7, .inl (k_8, 4, .inl (fun _ => 0))), (q_9, .inl (k_10, 4, .inl (fun _ => 0))), (q_11, .inl (k_12, 8000, .inl (fun _ => 0))), (q_13, .inl (k_14, 4, .inl (fun _ => 0))), (q_15, .inl (k_16, 8000, .inl (fun _ => 0)))] H := hP
  have hD : va_D A [(g0, .inr (4, [.ref q_1, .ref q_3, .ref q_5, .ref q_7, .ref q_9, .ref q_11, .ref q_13, .null, .null, .null, .null, .null, .null, .null, .null, .null, .null, .null, .int 0, .null, .int 0, .int 0, .int 0])), (q_1, .inl (k_2, 4, .inl (fun _ => 0))), (q_3, .inl (k_4, 4, .inl (fun _ => 0))), (q_5, .inl (k_6, 4, .inl (fun _ => 0))), (q_7, .inl (k_8, 4, .inl (fun _ => 0))), (q_9, .inl (k_10, 4, .inl (fun _ => 0))), (q_11, .inl (k_12, 8000, .inl (fun _ => 0))), (q_13, .inl (k_14, 4, .inl (fun _ => 0))), (q_15, .inl (k_16, 8000, .inl (fun _ => 0)))] := hD
  have hK : va_K (dC, dI) vwCl [(k_2, .boolean), (k_4, .boolean), (k_6, .int), (k_8, .int), (k_10, .int), (k_12, .int), (k_14, .int), (k_16, .int)] s := hK
  refine W.widen (k := 8) (n := 16024) (by omega) (by omega) ?_
  refine va_putF (D := (dC, dI)) (ci := 4) (v := .ref q_15) (ty := .array (.int)) (C := RX5) (T := TX5) (N := 23) hx hb hts (by decide +kernel) tyX5 tyX5_ok nmX5 hown hK hP hD hS 0 rfl rfl 7 (by decide) (hts (.fieldLink RX5 32 "SignFormsModel" "value" "[I") (by decide +kernel)) (fun _ h9 => h9) rfl hin rfl (by decide +kernel) rfl rfl (Nat.le_of_ble_eq_true rfl) dX5_init_61 (fun H locs hP hD hS => ?_)
  have hP : va_P (dC, dI) vwCl [(g0, .inr (4, [.ref q_1, .ref q_3, .ref q_5, .ref q_7, .ref q_9, .ref q_11, .ref q_13, .ref q_15, .null, .null, .null, .null, .null, .null, .null, .null, .null, .null, .int 0, .null, .int 0, .int 0, .int 0])), (q_1, .inl (k_2, 4, .inl (fun _ => 0))), (q_3, .inl (k_4, 4, .inl (fun _ => 0))), (q_5, .inl (k_6, 4, .inl (fun _ => 0))), (q_7, .inl (k_8, 4, .inl (fun _ => 0))), (q_9, .inl (k_10, 4, .inl (fun _ => 0))), (q_11, .inl (k_12, 8000, .inl (fun _ => 0))), (q_13, .inl (k_14, 4, .inl (fun _ => 0))), (q_15, .inl (k_16, 8000, .inl (fun _ => 0)))] H := hP
  have hD : va_D A [(g0, .inr (4, [.ref q_1, .ref q_3, .ref q_5, .ref q_7, .ref q_9, .ref q_11, .ref q_13, .ref q_15, .null, .null, .null, .null, .null, .null, .null, .null, .null, .null, .int 0, .null, .int 0, .int 0, .int 0])), (q_1, .inl (k_2, 4, .inl (fun _ => 0))), (q_3, .inl (k_4, 4, .inl (fun _ => 0))), (q_5, .inl (k_6, 4, .inl (fun _ => 0))), (q_7, .inl (k_8, 4, .inl (fun _ => 0))), (q_9, .inl (k_10, 4, .inl (fun _ => 0))), (q_11, .inl (k_12, 8000, .inl (fun _ => 0))), (q_13, .inl (k_14, 4, .inl (fun _ => 0))), (q_15, .inl (k_16, 8000, .inl (fun _ => 0)))] := hD
  refine lv_aload_n hx hb dX5_init_64 rfl (lv_at hl 0 rfl) ?_
  refine lv_sipush (v := 8000) hx hb dX5_init_65 (by decide +kernel) ?_
  refine va_newa (atype := .int) (ty := .int) (a0 := (8000, .inl (fun _ => 0))) (N' := 8000) hx hb (hts (.arrayClass .int) (by decide +kernel)) rfl hK hP hD hS hA (fun cA => vp_cell_i cA 8000 (fun _ => 0)) (by decide +kernel) (by decide +kernel) (by decide +kernel) (Nat.le_of_ble_eq_true rfl) (Nat.le_of_ble_eq_true rfl) dX5_init_68 (fun q_17 k_18 H hK hP hD hS => ?_)
  have hP : va_P (dC, dI) vwCl [(g0, .inr (4, [.ref q_1, .ref q_3, .ref q_5, .ref q_7, .ref q_9, .ref q_11, .ref q_13, .ref q_15, .null, .null, .null, .null, .null, .null, .null, .null, .null, .null, .int 0, .null, .int 0, .int 0, .int 0])), (q_1, .inl (k_2, 4, .inl (fun _ => 0))), (q_3, .inl (k_4, 4, .inl (fun _ => 0))), (q_5, .inl (k_6, 4, .inl (fun _ => 0))), (q_7, .inl (k_8, 4, .inl (fun _ => 0))), (q_9, .inl (k_10, 4, .inl (fun _ => 0))), (q_11, .inl (k_12, 8000, .inl (fun _ => 0))), (q_13, .inl (k_14, 4, .inl (fun _ => 0))), (q_15, .inl (k_16, 8000, .inl (fun _ => 0))), (q_17, .inl (k_18, 8000, .inl (fun _ => 0)))] H := hP
  have hD : va_D A [(g0, .inr (4, [.ref q_1, .ref q_3, .ref q_5, .ref q_7, .ref q_9, .ref q_11, .ref q_13, .ref q_15, .null, .null, .null, .null, .null, .null, .null, .null, .null, .null, .int 0, .null, .int 0, .int 0, .int 0])), (q_1, .inl (k_2, 4, .inl (fun _ => 0))), (q_3, .inl (k_4, 4, .inl (fun _ => 0))), (q_5, .inl (k_6, 4, .inl (fun _ => 0))), (q_7, .inl (k_8, 4, .inl (fun _ => 0))), (q_9, .inl (k_10, 4, .inl (fun _ => 0))), (q_11, .inl (k_12, 8000, .inl (fun _ => 0))), (q_13, .inl (k_14, 4, .inl (fun _ => 0))), (q_15, .inl (k_16, 8000, .inl (fun _ => 0))), (q_17, .inl (k_18, 8000, .inl (fun _ => 0)))] := hD
  have hK : va_K (dC, dI) vwCl [(k_2, .boolean), (k_4, .boolean), (k_6, .int), (k_8, .int), (k_10, .int), (k_12, .int), (k_14, .int), (k_16, .int), (k_18, .int)] s := hK
  refine W.widen (k := 9) (n := 24024) (by omega) (by omega) ?_
  refine va_putF (D := (dC, dI)) (ci := 4) (v := .ref q_17) (ty := .array (.int)) (C := RX5) (T := TX5) (N := 23) hx hb hts (by decide +kernel) tyX5 tyX5_ok nmX5 hown hK hP hD hS 0 rfl rfl 8 (by decide) (hts (.fieldLink RX5 35 "SignFormsModel" "place" "[I") (by decide +kernel)) (fun _ h9 => h9) rfl hin rfl (by decide +kernel) rfl rfl (Nat.le_of_ble_eq_true rfl) dX5_init_70 (fun H locs hP hD hS => ?_)
  have hP : va_P (dC, dI) vwCl [(g0, .inr (4, [.ref q_1, .ref q_3, .ref q_5, .ref q_7, .ref q_9, .ref q_11, .ref q_13, .ref q_15, .ref q_17, .null, .null, .null, .null, .null, .null, .null, .null, .null, .int 0, .null, .int 0, .int 0, .int 0])), (q_1, .inl (k_2, 4, .inl (fun _ => 0))), (q_3, .inl (k_4, 4, .inl (fun _ => 0))), (q_5, .inl (k_6, 4, .inl (fun _ => 0))), (q_7, .inl (k_8, 4, .inl (fun _ => 0))), (q_9, .inl (k_10, 4, .inl (fun _ => 0))), (q_11, .inl (k_12, 8000, .inl (fun _ => 0))), (q_13, .inl (k_14, 4, .inl (fun _ => 0))), (q_15, .inl (k_16, 8000, .inl (fun _ => 0))), (q_17, .inl (k_18, 8000, .inl (fun _ => 0)))] H := hP
  have hD : va_D A [(g0, .inr (4, [.ref q_1, .ref q_3, .ref q_5, .ref q_7, .ref q_9, .ref q_11, .ref q_13, .ref q_15, .ref q_17, .null, .null, .null, .null, .null, .null, .null, .null, .null, .int 0, .null, .int 0, .int 0, .int 0])), (q_1, .inl (k_2, 4, .inl (fun _ => 0))), (q_3, .inl (k_4, 4, .inl (fun _ => 0))), (q_5, .inl (k_6, 4, .inl (fun _ => 0))), (q_7, .inl (k_8, 4, .inl (fun _ => 0))), (q_9, .inl (k_10, 4, .inl (fun _ => 0))), (q_11, .inl (k_12, 8000, .inl (fun _ => 0))), (q_13, .inl (k_14, 4, .inl (fun _ => 0))), (q_15, .inl (k_16, 8000, .inl (fun _ => 0))), (q_17, .inl (k_18, 8000, .inl (fun _ => 0)))] := hD
  refine lv_aload_n hx hb dX5_init_73 rfl (lv_at hl 0 rfl) ?_
  refine lv_sipush (v := 8000) hx hb dX5_init_74 (by decide +kernel) ?_
  refine va_newa (atype := .int) (ty := .int) (a0 := (8000, .inl (fun _ => 0))) (N' := 8000) hx hb (hts (.arrayClass .int) (by decide +kernel)) rfl hK hP hD hS hA (fun cA => vp_cell_i cA 8000 (fun _ => 0)) (by decide +kernel) (by decide +kernel) (by decide +kernel) (Nat.le_of_ble_eq_true rfl) (Nat.le_of_ble_eq_true rfl) dX5_init_77 (fun q_19 k_20 H hK hP hD hS => ?_)
  have hP : va_P (dC, dI) vwCl [(g0, .inr (4, [.ref q_1, .ref q_3, .ref q_5, .ref q_7, .ref q_9, .ref q_11, .ref q_13, .ref q_15, .ref q_17, .null, .null, .null, .null, .null, .null, .null, .null, .null, .int 0, .null, .int 0, .int 0, .int 0])), (q_1, .inl (k_2, 4, .inl (fun _ => 0))), (q_3, .inl (k_4, 4, .inl (fun _ => 0))), (q_5, .inl (k_6, 4, .inl (fun _ => 0))), (q_7, .inl (k_8, 4, .inl (fun _ => 0))), (q_9, .inl (k_10, 4, .inl (fun _ => 0))), (q_11, .inl (k_12, 8000, .inl (fun _ => 0))), (q_13, .inl (k_14, 4, .inl (fun _ => 0))), (q_15, .inl (k_16, 8000, .inl (fun _ => 0))), (q_17, .inl (k_18, 8000, .inl (fun _ => 0))), (q_19, .inl (k_20, 8000, .inl (fun _ => 0)))] H := hP
  have hD : va_D A [(g0, .inr (4, [.ref q_1, .ref q_3, .ref q_5, .ref q_7, .ref q_9, .ref q_11, .ref q_13, .ref q_15, .ref q_17, .null, .null, .null, .null, .null, .null, .null, .null, .null, .int 0, .null, .int 0, .int 0, .int 0])), (q_1, .inl (k_2, 4, .inl (fun _ => 0))), (q_3, .inl (k_4, 4, .inl (fun _ => 0))), (q_5, .inl (k_6, 4, .inl (fun _ => 0))), (q_7, .inl (k_8, 4, .inl (fun _ => 0))), (q_9, .inl (k_10, 4, .inl (fun _ => 0))), (q_11, .inl (k_12, 8000, .inl (fun _ => 0))), (q_13, .inl (k_14, 4, .inl (fun _ => 0))), (q_15, .inl (k_16, 8000, .inl (fun _ => 0))), (q_17, .inl (k_18, 8000, .inl (fun _ => 0))), (q_19, .inl (k_20, 8000, .inl (fun _ => 0)))] := hD
  have hK : va_K (dC, dI) vwCl [(k_2, .boolean), (k_4, .boolean), (k_6, .int), (k_8, .int), (k_10, .int), (k_12, .int), (k_14, .int), (k_16, .int), (k_18, .int), (k_20, .int)] s := hK
  refine W.widen (k := 10) (n := 32024) (by omega) (by omega) ?_
  refine va_putF (D := (dC, dI)) (ci := 4) (v := .ref q_19) (ty := .array (.int)) (C := RX5) (T := TX5) (N := 23) hx hb hts (by decide +kernel) tyX5 tyX5_ok nmX5 hown hK hP hD hS 0 rfl rfl 9 (by decide) (hts (.fieldLink RX5 38 "SignFormsModel" "length" "[I") (by decide +kernel)) (fun _ h9 => h9) rfl hin rfl (by decide +kernel) rfl rfl (Nat.le_of_ble_eq_true rfl) dX5_init_79 (fun H locs hP hD hS => ?_)
  have hP : va_P (dC, dI) vwCl [(g0, .inr (4, [.ref q_1, .ref q_3, .ref q_5, .ref q_7, .ref q_9, .ref q_11, .ref q_13, .ref q_15, .ref q_17, .ref q_19, .null, .null, .null, .null, .null, .null, .null, .null, .int 0, .null, .int 0, .int 0, .int 0])), (q_1, .inl (k_2, 4, .inl (fun _ => 0))), (q_3, .inl (k_4, 4, .inl (fun _ => 0))), (q_5, .inl (k_6, 4, .inl (fun _ => 0))), (q_7, .inl (k_8, 4, .inl (fun _ => 0))), (q_9, .inl (k_10, 4, .inl (fun _ => 0))), (q_11, .inl (k_12, 8000, .inl (fun _ => 0))), (q_13, .inl (k_14, 4, .inl (fun _ => 0))), (q_15, .inl (k_16, 8000, .inl (fun _ => 0))), (q_17, .inl (k_18, 8000, .inl (fun _ => 0))), (q_19, .inl (k_20, 8000, .inl (fun _ => 0)))] H := hP
  have hD : va_D A [(g0, .inr (4, [.ref q_1, .ref q_3, .ref q_5, .ref q_7, .ref q_9, .ref q_11, .ref q_13, .ref q_15, .ref q_17, .ref q_19, .null, .null, .null, .null, .null, .null, .null, .null, .int 0, .null, .int 0, .int 0, .int 0])), (q_1, .inl (k_2, 4, .inl (fun _ => 0))), (q_3, .inl (k_4, 4, .inl (fun _ => 0))), (q_5, .inl (k_6, 4, .inl (fun _ => 0))), (q_7, .inl (k_8, 4, .inl (fun _ => 0))), (q_9, .inl (k_10, 4, .inl (fun _ => 0))), (q_11, .inl (k_12, 8000, .inl (fun _ => 0))), (q_13, .inl (k_14, 4, .inl (fun _ => 0))), (q_15, .inl (k_16, 8000, .inl (fun _ => 0))), (q_17, .inl (k_18, 8000, .inl (fun _ => 0))), (q_19, .inl (k_20, 8000, .inl (fun _ => 0)))] := hD
  refine lv_aload_n hx hb dX5_init_82 rfl (lv_at hl 0 rfl) ?_
  refine lv_sipush (v := 8000) hx hb dX5_init_83 (by decide +kernel) ?_
  refine va_newa (atype := .boolean) (ty := .boolean) (a0 := (8000, .inl (fun _ => 0))) (N' := 8000) hx hb (hts (.arrayClass .boolean) (by decide +kernel)) rfl hK hP hD hS hA (fun cA => vp_cell_i cA 8000 (fun _ => 0)) (by decide +kernel) (by decide +kernel) (by decide +kernel) (Nat.le_of_ble_eq_true rfl) (Nat.le_of_ble_eq_true rfl) dX5_init_86 (fun q_21 k_22 H hK hP hD hS => ?_)
  have hP : va_P (dC, dI) vwCl [(g0, .inr (4, [.ref q_1, .ref q_3, .ref q_5, .ref q_7, .ref q_9, .ref q_11, .ref q_13, .ref q_15, .ref q_17, .ref q_19, .null, .null, .null, .null, .null, .null, .null, .null, .int 0, .null, .int 0, .int 0, .int 0])), (q_1, .inl (k_2, 4, .inl (fun _ => 0))), (q_3, .inl (k_4, 4, .inl (fun _ => 0))), (q_5, .inl (k_6, 4, .inl (fun _ => 0))), (q_7, .inl (k_8, 4, .inl (fun _ => 0))), (q_9, .inl (k_10, 4, .inl (fun _ => 0))), (q_11, .inl (k_12, 8000, .inl (fun _ => 0))), (q_13, .inl (k_14, 4, .inl (fun _ => 0))), (q_15, .inl (k_16, 8000, .inl (fun _ => 0))), (q_17, .inl (k_18, 8000, .inl (fun _ => 0))), (q_19, .inl (k_20, 8000, .inl (fun _ => 0))), (q_21, .inl (k_22, 8000, .inl (fun _ => 0)))] H := hP
  have hD : va_D A [(g0, .inr (4, [.ref q_1, .ref q_3, .ref q_5, .ref q_7, .ref q_9, .ref q_11, .ref q_13, .ref q_15, .ref q_17, .ref q_19, .null, .null, .null, .null, .null, .null, .null, .null, .int 0, .null, .int 0, .int 0, .int 0])), (q_1, .inl (k_2, 4, .inl (fun _ => 0))), (q_3, .inl (k_4, 4, .inl (fun _ => 0))), (q_5, .inl (k_6, 4, .inl (fun _ => 0))), (q_7, .inl (k_8, 4, .inl (fun _ => 0))), (q_9, .inl (k_10, 4, .inl (fun _ => 0))), (q_11, .inl (k_12, 8000, .inl (fun _ => 0))), (q_13, .inl (k_14, 4, .inl (fun _ => 0))), (q_15, .inl (k_16, 8000, .inl (fun _ => 0))), (q_17, .inl (k_18, 8000, .inl (fun _ => 0))), (q_19, .inl (k_20, 8000, .inl (fun _ => 0))), (q_21, .inl (k_22, 8000, .inl (fun _ => 0)))] := hD
  have hK : va_K (dC, dI) vwCl [(k_2, .boolean), (k_4, .boolean), (k_6, .int), (k_8, .int), (k_10, .int), (k_12, .int), (k_14, .int), (k_16, .int), (k_18, .int), (k_20, .int), (k_22, .boolean)] s := hK
  refine W.widen (k := 11) (n := 40024) (by omega) (by omega) ?_
  refine va_putF (D := (dC, dI)) (ci := 4) (v := .ref q_21) (ty := .array (.boolean)) (C := RX5) (T := TX5) (N := 23) hx hb hts (by decide +kernel) tyX5 tyX5_ok nmX5 hown hK hP hD hS 0 rfl rfl 10 (by decide) (hts (.fieldLink RX5 41 "SignFormsModel" "isMade" "[Z") (by decide +kernel)) (fun _ h9 => h9) rfl hin rfl (by decide +kernel) rfl rfl (Nat.le_of_ble_eq_true rfl) dX5_init_88 (fun H locs hP hD hS => ?_)
  have hP : va_P (dC, dI) vwCl [(g0, .inr (4, [.ref q_1, .ref q_3, .ref q_5, .ref q_7, .ref q_9, .ref q_11, .ref q_13, .ref q_15, .ref q_17, .ref q_19, .ref q_21, .null, .null, .null, .null, .null, .null, .null, .int 0, .null, .int 0, .int 0, .int 0])), (q_1, .inl (k_2, 4, .inl (fun _ => 0))), (q_3, .inl (k_4, 4, .inl (fun _ => 0))), (q_5, .inl (k_6, 4, .inl (fun _ => 0))), (q_7, .inl (k_8, 4, .inl (fun _ => 0))), (q_9, .inl (k_10, 4, .inl (fun _ => 0))), (q_11, .inl (k_12, 8000, .inl (fun _ => 0))), (q_13, .inl (k_14, 4, .inl (fun _ => 0))), (q_15, .inl (k_16, 8000, .inl (fun _ => 0))), (q_17, .inl (k_18, 8000, .inl (fun _ => 0))), (q_19, .inl (k_20, 8000, .inl (fun _ => 0))), (q_21, .inl (k_22, 8000, .inl (fun _ => 0)))] H := hP
  have hD : va_D A [(g0, .inr (4, [.ref q_1, .ref q_3, .ref q_5, .ref q_7, .ref q_9, .ref q_11, .ref q_13, .ref q_15, .ref q_17, .ref q_19, .ref q_21, .null, .null, .null, .null, .null, .null, .null, .int 0, .null, .int 0, .int 0, .int 0])), (q_1, .inl (k_2, 4, .inl (fun _ => 0))), (q_3, .inl (k_4, 4, .inl (fun _ => 0))), (q_5, .inl (k_6, 4, .inl (fun _ => 0))), (q_7, .inl (k_8, 4, .inl (fun _ => 0))), (q_9, .inl (k_10, 4, .inl (fun _ => 0))), (q_11, .inl (k_12, 8000, .inl (fun _ => 0))), (q_13, .inl (k_14, 4, .inl (fun _ => 0))), (q_15, .inl (k_16, 8000, .inl (fun _ => 0))), (q_17, .inl (k_18, 8000, .inl (fun _ => 0))), (q_19, .inl (k_20, 8000, .inl (fun _ => 0))), (q_21, .inl (k_22, 8000, .inl (fun _ => 0)))] := hD
  refine lv_aload_n hx hb dX5_init_91 rfl (lv_at hl 0 rfl) ?_
  refine lv_iconst (v := 4) hx hb dX5_init_92 (by decide) ?_
  refine va_newa (atype := .int) (ty := .int) (a0 := (4, .inl (fun _ => 0))) (N' := 4) hx hb (hts (.arrayClass .int) (by decide +kernel)) rfl hK hP hD hS hA (fun cA => vp_cell_i cA 4 (fun _ => 0)) (by decide +kernel) (by decide +kernel) (by decide +kernel) (Nat.le_of_ble_eq_true rfl) (Nat.le_of_ble_eq_true rfl) dX5_init_93 (fun q_23 k_24 H hK hP hD hS => ?_)
  have hP : va_P (dC, dI) vwCl [(g0, .inr (4, [.ref q_1, .ref q_3, .ref q_5, .ref q_7, .ref q_9, .ref q_11, .ref q_13, .ref q_15, .ref q_17, .ref q_19, .ref q_21, .null, .null, .null, .null, .null, .null, .null, .int 0, .null, .int 0, .int 0, .int 0])), (q_1, .inl (k_2, 4, .inl (fun _ => 0))), (q_3, .inl (k_4, 4, .inl (fun _ => 0))), (q_5, .inl (k_6, 4, .inl (fun _ => 0))), (q_7, .inl (k_8, 4, .inl (fun _ => 0))), (q_9, .inl (k_10, 4, .inl (fun _ => 0))), (q_11, .inl (k_12, 8000, .inl (fun _ => 0))), (q_13, .inl (k_14, 4, .inl (fun _ => 0))), (q_15, .inl (k_16, 8000, .inl (fun _ => 0))), (q_17, .inl (k_18, 8000, .inl (fun _ => 0))), (q_19, .inl (k_20, 8000, .inl (fun _ => 0))), (q_21, .inl (k_22, 8000, .inl (fun _ => 0))), (q_23, .inl (k_24, 4, .inl (fun _ => 0)))] H := hP
  have hD : va_D A [(g0, .inr (4, [.ref q_1, .ref q_3, .ref q_5, .ref q_7, .ref q_9, .ref q_11, .ref q_13, .ref q_15, .ref q_17, .ref q_19, .ref q_21, .null, .null, .null, .null, .null, .null, .null, .int 0, .null, .int 0, .int 0, .int 0])), (q_1, .inl (k_2, 4, .inl (fun _ => 0))), (q_3, .inl (k_4, 4, .inl (fun _ => 0))), (q_5, .inl (k_6, 4, .inl (fun _ => 0))), (q_7, .inl (k_8, 4, .inl (fun _ => 0))), (q_9, .inl (k_10, 4, .inl (fun _ => 0))), (q_11, .inl (k_12, 8000, .inl (fun _ => 0))), (q_13, .inl (k_14, 4, .inl (fun _ => 0))), (q_15, .inl (k_16, 8000, .inl (fun _ => 0))), (q_17, .inl (k_18, 8000, .inl (fun _ => 0))), (q_19, .inl (k_20, 8000, .inl (fun _ => 0))), (q_21, .inl (k_22, 8000, .inl (fun _ => 0))), (q_23, .inl (k_24, 4, .inl (fun _ => 0)))] := hD
  have hK : va_K (dC, dI) vwCl [(k_2, .boolean), (k_4, .boolean), (k_6, .int), (k_8, .int), (k_10, .int), (k_12, .int), (k_14, .int), (k_16, .int), (k_18, .int), (k_20, .int), (k_22, .boolean), (k_24, .int)] s := hK
  refine W.widen (k := 12) (n := 40028) (by omega) (by omega) ?_
  refine va_putF (D := (dC, dI)) (ci := 4) (v := .ref q_23) (ty := .array (.int)) (C := RX5) (T := TX5) (N := 23) hx hb hts (by decide +kernel) tyX5 tyX5_ok nmX5 hown hK hP hD hS 0 rfl rfl 11 (by decide) (hts (.fieldLink RX5 44 "SignFormsModel" "signs" "[I") (by decide +kernel)) (fun _ h9 => h9) rfl hin rfl (by decide +kernel) rfl rfl (Nat.le_of_ble_eq_true rfl) dX5_init_95 (fun H locs hP hD hS => ?_)
  have hP : va_P (dC, dI) vwCl [(g0, .inr (4, [.ref q_1, .ref q_3, .ref q_5, .ref q_7, .ref q_9, .ref q_11, .ref q_13, .ref q_15, .ref q_17, .ref q_19, .ref q_21, .ref q_23, .null, .null, .null, .null, .null, .null, .int 0, .null, .int 0, .int 0, .int 0])), (q_1, .inl (k_2, 4, .inl (fun _ => 0))), (q_3, .inl (k_4, 4, .inl (fun _ => 0))), (q_5, .inl (k_6, 4, .inl (fun _ => 0))), (q_7, .inl (k_8, 4, .inl (fun _ => 0))), (q_9, .inl (k_10, 4, .inl (fun _ => 0))), (q_11, .inl (k_12, 8000, .inl (fun _ => 0))), (q_13, .inl (k_14, 4, .inl (fun _ => 0))), (q_15, .inl (k_16, 8000, .inl (fun _ => 0))), (q_17, .inl (k_18, 8000, .inl (fun _ => 0))), (q_19, .inl (k_20, 8000, .inl (fun _ => 0))), (q_21, .inl (k_22, 8000, .inl (fun _ => 0))), (q_23, .inl (k_24, 4, .inl (fun _ => 0)))] H := hP
  have hD : va_D A [(g0, .inr (4, [.ref q_1, .ref q_3, .ref q_5, .ref q_7, .ref q_9, .ref q_11, .ref q_13, .ref q_15, .ref q_17, .ref q_19, .ref q_21, .ref q_23, .null, .null, .null, .null, .null, .null, .int 0, .null, .int 0, .int 0, .int 0])), (q_1, .inl (k_2, 4, .inl (fun _ => 0))), (q_3, .inl (k_4, 4, .inl (fun _ => 0))), (q_5, .inl (k_6, 4, .inl (fun _ => 0))), (q_7, .inl (k_8, 4, .inl (fun _ => 0))), (q_9, .inl (k_10, 4, .inl (fun _ => 0))), (q_11, .inl (k_12, 8000, .inl (fun _ => 0))), (q_13, .inl (k_14, 4, .inl (fun _ => 0))), (q_15, .inl (k_16, 8000, .inl (fun _ => 0))), (q_17, .inl (k_18, 8000, .inl (fun _ => 0))), (q_19, .inl (k_20, 8000, .inl (fun _ => 0))), (q_21, .inl (k_22, 8000, .inl (fun _ => 0))), (q_23, .inl (k_24, 4, .inl (fun _ => 0)))] := hD
  refine lv_aload_n hx hb dX5_init_98 rfl (lv_at hl 0 rfl) ?_
  refine lv_iconst (v := 4) hx hb dX5_init_99 (by decide) ?_
  refine va_newa (atype := .int) (ty := .int) (a0 := (4, .inl (fun _ => 0))) (N' := 4) hx hb (hts (.arrayClass .int) (by decide +kernel)) rfl hK hP hD hS hA (fun cA => vp_cell_i cA 4 (fun _ => 0)) (by decide +kernel) (by decide +kernel) (by decide +kernel) (Nat.le_of_ble_eq_true rfl) (Nat.le_of_ble_eq_true rfl) dX5_init_100 (fun q_25 k_26 H hK hP hD hS => ?_)
  have hP : va_P (dC, dI) vwCl [(g0, .inr (4, [.ref q_1, .ref q_3, .ref q_5, .ref q_7, .ref q_9, .ref q_11, .ref q_13, .ref q_15, .ref q_17, .ref q_19, .ref q_21, .ref q_23, .null, .null, .null, .null, .null, .null, .int 0, .null, .int 0, .int 0, .int 0])), (q_1, .inl (k_2, 4, .inl (fun _ => 0))), (q_3, .inl (k_4, 4, .inl (fun _ => 0))), (q_5, .inl (k_6, 4, .inl (fun _ => 0))), (q_7, .inl (k_8, 4, .inl (fun _ => 0))), (q_9, .inl (k_10, 4, .inl (fun _ => 0))), (q_11, .inl (k_12, 8000, .inl (fun _ => 0))), (q_13, .inl (k_14, 4, .inl (fun _ => 0))), (q_15, .inl (k_16, 8000, .inl (fun _ => 0))), (q_17, .inl (k_18, 8000, .inl (fun _ => 0))), (q_19, .inl (k_20, 8000, .inl (fun _ => 0))), (q_21, .inl (k_22, 8000, .inl (fun _ => 0))), (q_23, .inl (k_24, 4, .inl (fun _ => 0))), (q_25, .inl (k_26, 4, .inl (fun _ => 0)))] H := hP
  have hD : va_D A [(g0, .inr (4, [.ref q_1, .ref q_3, .ref q_5, .ref q_7, .ref q_9, .ref q_11, .ref q_13, .ref q_15, .ref q_17, .ref q_19, .ref q_21, .ref q_23, .null, .null, .null, .null, .null, .null, .int 0, .null, .int 0, .int 0, .int 0])), (q_1, .inl (k_2, 4, .inl (fun _ => 0))), (q_3, .inl (k_4, 4, .inl (fun _ => 0))), (q_5, .inl (k_6, 4, .inl (fun _ => 0))), (q_7, .inl (k_8, 4, .inl (fun _ => 0))), (q_9, .inl (k_10, 4, .inl (fun _ => 0))), (q_11, .inl (k_12, 8000, .inl (fun _ => 0))), (q_13, .inl (k_14, 4, .inl (fun _ => 0))), (q_15, .inl (k_16, 8000, .inl (fun _ => 0))), (q_17, .inl (k_18, 8000, .inl (fun _ => 0))), (q_19, .inl (k_20, 8000, .inl (fun _ => 0))), (q_21, .inl (k_22, 8000, .inl (fun _ => 0))), (q_23, .inl (k_24, 4, .inl (fun _ => 0))), (q_25, .inl (k_26, 4, .inl (fun _ => 0)))] := hD
  have hK : va_K (dC, dI) vwCl [(k_2, .boolean), (k_4, .boolean), (k_6, .int), (k_8, .int), (k_10, .int), (k_12, .int), (k_14, .int), (k_16, .int), (k_18, .int), (k_20, .int), (k_22, .boolean), (k_24, .int), (k_26, .int)] s := hK
  refine W.widen (k := 13) (n := 40032) (by omega) (by omega) ?_
  refine va_putF (D := (dC, dI)) (ci := 4) (v := .ref q_25) (ty := .array (.int)) (C := RX5) (T := TX5) (N := 23) hx hb hts (by decide +kernel) tyX5 tyX5_ok nmX5 hown hK hP hD hS 0 rfl rfl 12 (by decide) (hts (.fieldLink RX5 47 "SignFormsModel" "subparts" "[I") (by decide +kernel)) (fun _ h9 => h9) rfl hin rfl (by decide +kernel) rfl rfl (Nat.le_of_ble_eq_true rfl) dX5_init_102 (fun H locs hP hD hS => ?_)
  have hP : va_P (dC, dI) vwCl [(g0, .inr (4, [.ref q_1, .ref q_3, .ref q_5, .ref q_7, .ref q_9, .ref q_11, .ref q_13, .ref q_15, .ref q_17, .ref q_19, .ref q_21, .ref q_23, .ref q_25, .null, .null, .null, .null, .null, .int 0, .null, .int 0, .int 0, .int 0])), (q_1, .inl (k_2, 4, .inl (fun _ => 0))), (q_3, .inl (k_4, 4, .inl (fun _ => 0))), (q_5, .inl (k_6, 4, .inl (fun _ => 0))), (q_7, .inl (k_8, 4, .inl (fun _ => 0))), (q_9, .inl (k_10, 4, .inl (fun _ => 0))), (q_11, .inl (k_12, 8000, .inl (fun _ => 0))), (q_13, .inl (k_14, 4, .inl (fun _ => 0))), (q_15, .inl (k_16, 8000, .inl (fun _ => 0))), (q_17, .inl (k_18, 8000, .inl (fun _ => 0))), (q_19, .inl (k_20, 8000, .inl (fun _ => 0))), (q_21, .inl (k_22, 8000, .inl (fun _ => 0))), (q_23, .inl (k_24, 4, .inl (fun _ => 0))), (q_25, .inl (k_26, 4, .inl (fun _ => 0)))] H := hP
  have hD : va_D A [(g0, .inr (4, [.ref q_1, .ref q_3, .ref q_5, .ref q_7, .ref q_9, .ref q_11, .ref q_13, .ref q_15, .ref q_17, .ref q_19, .ref q_21, .ref q_23, .ref q_25, .null, .null, .null, .null, .null, .int 0, .null, .int 0, .int 0, .int 0])), (q_1, .inl (k_2, 4, .inl (fun _ => 0))), (q_3, .inl (k_4, 4, .inl (fun _ => 0))), (q_5, .inl (k_6, 4, .inl (fun _ => 0))), (q_7, .inl (k_8, 4, .inl (fun _ => 0))), (q_9, .inl (k_10, 4, .inl (fun _ => 0))), (q_11, .inl (k_12, 8000, .inl (fun _ => 0))), (q_13, .inl (k_14, 4, .inl (fun _ => 0))), (q_15, .inl (k_16, 8000, .inl (fun _ => 0))), (q_17, .inl (k_18, 8000, .inl (fun _ => 0))), (q_19, .inl (k_20, 8000, .inl (fun _ => 0))), (q_21, .inl (k_22, 8000, .inl (fun _ => 0))), (q_23, .inl (k_24, 4, .inl (fun _ => 0))), (q_25, .inl (k_26, 4, .inl (fun _ => 0)))] := hD
  refine lv_aload_n hx hb dX5_init_105 rfl (lv_at hl 0 rfl) ?_
  refine lv_iconst (v := 4) hx hb dX5_init_106 (by decide) ?_
  refine va_newa (atype := .int) (ty := .int) (a0 := (4, .inl (fun _ => 0))) (N' := 4) hx hb (hts (.arrayClass .int) (by decide +kernel)) rfl hK hP hD hS hA (fun cA => vp_cell_i cA 4 (fun _ => 0)) (by decide +kernel) (by decide +kernel) (by decide +kernel) (Nat.le_of_ble_eq_true rfl) (Nat.le_of_ble_eq_true rfl) dX5_init_107 (fun q_27 k_28 H hK hP hD hS => ?_)
  have hP : va_P (dC, dI) vwCl [(g0, .inr (4, [.ref q_1, .ref q_3, .ref q_5, .ref q_7, .ref q_9, .ref q_11, .ref q_13, .ref q_15, .ref q_17, .ref q_19, .ref q_21, .ref q_23, .ref q_25, .null, .null, .null, .null, .null, .int 0, .null, .int 0, .int 0, .int 0])), (q_1, .inl (k_2, 4, .inl (fun _ => 0))), (q_3, .inl (k_4, 4, .inl (fun _ => 0))), (q_5, .inl (k_6, 4, .inl (fun _ => 0))), (q_7, .inl (k_8, 4, .inl (fun _ => 0))), (q_9, .inl (k_10, 4, .inl (fun _ => 0))), (q_11, .inl (k_12, 8000, .inl (fun _ => 0))), (q_13, .inl (k_14, 4, .inl (fun _ => 0))), (q_15, .inl (k_16, 8000, .inl (fun _ => 0))), (q_17, .inl (k_18, 8000, .inl (fun _ => 0))), (q_19, .inl (k_20, 8000, .inl (fun _ => 0))), (q_21, .inl (k_22, 8000, .inl (fun _ => 0))), (q_23, .inl (k_24, 4, .inl (fun _ => 0))), (q_25, .inl (k_26, 4, .inl (fun _ => 0))), (q_27, .inl (k_28, 4, .inl (fun _ => 0)))] H := hP
  have hD : va_D A [(g0, .inr (4, [.ref q_1, .ref q_3, .ref q_5, .ref q_7, .ref q_9, .ref q_11, .ref q_13, .ref q_15, .ref q_17, .ref q_19, .ref q_21, .ref q_23, .ref q_25, .null, .null, .null, .null, .null, .int 0, .null, .int 0, .int 0, .int 0])), (q_1, .inl (k_2, 4, .inl (fun _ => 0))), (q_3, .inl (k_4, 4, .inl (fun _ => 0))), (q_5, .inl (k_6, 4, .inl (fun _ => 0))), (q_7, .inl (k_8, 4, .inl (fun _ => 0))), (q_9, .inl (k_10, 4, .inl (fun _ => 0))), (q_11, .inl (k_12, 8000, .inl (fun _ => 0))), (q_13, .inl (k_14, 4, .inl (fun _ => 0))), (q_15, .inl (k_16, 8000, .inl (fun _ => 0))), (q_17, .inl (k_18, 8000, .inl (fun _ => 0))), (q_19, .inl (k_20, 8000, .inl (fun _ => 0))), (q_21, .inl (k_22, 8000, .inl (fun _ => 0))), (q_23, .inl (k_24, 4, .inl (fun _ => 0))), (q_25, .inl (k_26, 4, .inl (fun _ => 0))), (q_27, .inl (k_28, 4, .inl (fun _ => 0)))] := hD
  have hK : va_K (dC, dI) vwCl [(k_2, .boolean), (k_4, .boolean), (k_6, .int), (k_8, .int), (k_10, .int), (k_12, .int), (k_14, .int), (k_16, .int), (k_18, .int), (k_20, .int), (k_22, .boolean), (k_24, .int), (k_26, .int), (k_28, .int)] s := hK
  refine W.widen (k := 14) (n := 40036) (by omega) (by omega) ?_
  refine va_putF (D := (dC, dI)) (ci := 4) (v := .ref q_27) (ty := .array (.int)) (C := RX5) (T := TX5) (N := 23) hx hb hts (by decide +kernel) tyX5 tyX5_ok nmX5 hown hK hP hD hS 0 rfl rfl 13 (by decide) (hts (.fieldLink RX5 50 "SignFormsModel" "open" "[I") (by decide +kernel)) (fun _ h9 => h9) rfl hin rfl (by decide +kernel) rfl rfl (Nat.le_of_ble_eq_true rfl) dX5_init_109 (fun H locs hP hD hS => ?_)
  have hP : va_P (dC, dI) vwCl [(g0, .inr (4, [.ref q_1, .ref q_3, .ref q_5, .ref q_7, .ref q_9, .ref q_11, .ref q_13, .ref q_15, .ref q_17, .ref q_19, .ref q_21, .ref q_23, .ref q_25, .ref q_27, .null, .null, .null, .null, .int 0, .null, .int 0, .int 0, .int 0])), (q_1, .inl (k_2, 4, .inl (fun _ => 0))), (q_3, .inl (k_4, 4, .inl (fun _ => 0))), (q_5, .inl (k_6, 4, .inl (fun _ => 0))), (q_7, .inl (k_8, 4, .inl (fun _ => 0))), (q_9, .inl (k_10, 4, .inl (fun _ => 0))), (q_11, .inl (k_12, 8000, .inl (fun _ => 0))), (q_13, .inl (k_14, 4, .inl (fun _ => 0))), (q_15, .inl (k_16, 8000, .inl (fun _ => 0))), (q_17, .inl (k_18, 8000, .inl (fun _ => 0))), (q_19, .inl (k_20, 8000, .inl (fun _ => 0))), (q_21, .inl (k_22, 8000, .inl (fun _ => 0))), (q_23, .inl (k_24, 4, .inl (fun _ => 0))), (q_25, .inl (k_26, 4, .inl (fun _ => 0))), (q_27, .inl (k_28, 4, .inl (fun _ => 0)))] H := hP
  have hD : va_D A [(g0, .inr (4, [.ref q_1, .ref q_3, .ref q_5, .ref q_7, .ref q_9, .ref q_11, .ref q_13, .ref q_15, .ref q_17, .ref q_19, .ref q_21, .ref q_23, .ref q_25, .ref q_27, .null, .null, .null, .null, .int 0, .null, .int 0, .int 0, .int 0])), (q_1, .inl (k_2, 4, .inl (fun _ => 0))), (q_3, .inl (k_4, 4, .inl (fun _ => 0))), (q_5, .inl (k_6, 4, .inl (fun _ => 0))), (q_7, .inl (k_8, 4, .inl (fun _ => 0))), (q_9, .inl (k_10, 4, .inl (fun _ => 0))), (q_11, .inl (k_12, 8000, .inl (fun _ => 0))), (q_13, .inl (k_14, 4, .inl (fun _ => 0))), (q_15, .inl (k_16, 8000, .inl (fun _ => 0))), (q_17, .inl (k_18, 8000, .inl (fun _ => 0))), (q_19, .inl (k_20, 8000, .inl (fun _ => 0))), (q_21, .inl (k_22, 8000, .inl (fun _ => 0))), (q_23, .inl (k_24, 4, .inl (fun _ => 0))), (q_25, .inl (k_26, 4, .inl (fun _ => 0))), (q_27, .inl (k_28, 4, .inl (fun _ => 0)))] := hD
  refine lv_aload_n hx hb dX5_init_112 rfl (lv_at hl 0 rfl) ?_
  refine lv_iconst (v := 4) hx hb dX5_init_113 (by decide) ?_
  refine va_newa (atype := .int) (ty := .int) (a0 := (4, .inl (fun _ => 0))) (N' := 4) hx hb (hts (.arrayClass .int) (by decide +kernel)) rfl hK hP hD hS hA (fun cA => vp_cell_i cA 4 (fun _ => 0)) (by decide +kernel) (by decide +kernel) (by decide +kernel) (Nat.le_of_ble_eq_true rfl) (Nat.le_of_ble_eq_true rfl) dX5_init_114 (fun q_29 k_30 H hK hP hD hS => ?_)
  have hP : va_P (dC, dI) vwCl [(g0, .inr (4, [.ref q_1, .ref q_3, .ref q_5, .ref q_7, .ref q_9, .ref q_11, .ref q_13, .ref q_15, .ref q_17, .ref q_19, .ref q_21, .ref q_23, .ref q_25, .ref q_27, .null, .null, .null, .null, .int 0, .null, .int 0, .int 0, .int 0])), (q_1, .inl (k_2, 4, .inl (fun _ => 0))), (q_3, .inl (k_4, 4, .inl (fun _ => 0))), (q_5, .inl (k_6, 4, .inl (fun _ => 0))), (q_7, .inl (k_8, 4, .inl (fun _ => 0))), (q_9, .inl (k_10, 4, .inl (fun _ => 0))), (q_11, .inl (k_12, 8000, .inl (fun _ => 0))), (q_13, .inl (k_14, 4, .inl (fun _ => 0))), (q_15, .inl (k_16, 8000, .inl (fun _ => 0))), (q_17, .inl (k_18, 8000, .inl (fun _ => 0))), (q_19, .inl (k_20, 8000, .inl (fun _ => 0))), (q_21, .inl (k_22, 8000, .inl (fun _ => 0))), (q_23, .inl (k_24, 4, .inl (fun _ => 0))), (q_25, .inl (k_26, 4, .inl (fun _ => 0))), (q_27, .inl (k_28, 4, .inl (fun _ => 0))), (q_29, .inl (k_30, 4, .inl (fun _ => 0)))] H := hP
  have hD : va_D A [(g0, .inr (4, [.ref q_1, .ref q_3, .ref q_5, .ref q_7, .ref q_9, .ref q_11, .ref q_13, .ref q_15, .ref q_17, .ref q_19, .ref q_21, .ref q_23, .ref q_25, .ref q_27, .null, .null, .null, .null, .int 0, .null, .int 0, .int 0, .int 0])), (q_1, .inl (k_2, 4, .inl (fun _ => 0))), (q_3, .inl (k_4, 4, .inl (fun _ => 0))), (q_5, .inl (k_6, 4, .inl (fun _ => 0))), (q_7, .inl (k_8, 4, .inl (fun _ => 0))), (q_9, .inl (k_10, 4, .inl (fun _ => 0))), (q_11, .inl (k_12, 8000, .inl (fun _ => 0))), (q_13, .inl (k_14, 4, .inl (fun _ => 0))), (q_15, .inl (k_16, 8000, .inl (fun _ => 0))), (q_17, .inl (k_18, 8000, .inl (fun _ => 0))), (q_19, .inl (k_20, 8000, .inl (fun _ => 0))), (q_21, .inl (k_22, 8000, .inl (fun _ => 0))), (q_23, .inl (k_24, 4, .inl (fun _ => 0))), (q_25, .inl (k_26, 4, .inl (fun _ => 0))), (q_27, .inl (k_28, 4, .inl (fun _ => 0))), (q_29, .inl (k_30, 4, .inl (fun _ => 0)))] := hD
  have hK : va_K (dC, dI) vwCl [(k_2, .boolean), (k_4, .boolean), (k_6, .int), (k_8, .int), (k_10, .int), (k_12, .int), (k_14, .int), (k_16, .int), (k_18, .int), (k_20, .int), (k_22, .boolean), (k_24, .int), (k_26, .int), (k_28, .int), (k_30, .int)] s := hK
  refine W.widen (k := 15) (n := 40040) (by omega) (by omega) ?_
  refine va_putF (D := (dC, dI)) (ci := 4) (v := .ref q_29) (ty := .array (.int)) (C := RX5) (T := TX5) (N := 23) hx hb hts (by decide +kernel) tyX5 tyX5_ok nmX5 hown hK hP hD hS 0 rfl rfl 14 (by decide) (hts (.fieldLink RX5 53 "SignFormsModel" "broken" "[I") (by decide +kernel)) (fun _ h9 => h9) rfl hin rfl (by decide +kernel) rfl rfl (Nat.le_of_ble_eq_true rfl) dX5_init_116 (fun H locs hP hD hS => ?_)
  have hP : va_P (dC, dI) vwCl [(g0, .inr (4, [.ref q_1, .ref q_3, .ref q_5, .ref q_7, .ref q_9, .ref q_11, .ref q_13, .ref q_15, .ref q_17, .ref q_19, .ref q_21, .ref q_23, .ref q_25, .ref q_27, .ref q_29, .null, .null, .null, .int 0, .null, .int 0, .int 0, .int 0])), (q_1, .inl (k_2, 4, .inl (fun _ => 0))), (q_3, .inl (k_4, 4, .inl (fun _ => 0))), (q_5, .inl (k_6, 4, .inl (fun _ => 0))), (q_7, .inl (k_8, 4, .inl (fun _ => 0))), (q_9, .inl (k_10, 4, .inl (fun _ => 0))), (q_11, .inl (k_12, 8000, .inl (fun _ => 0))), (q_13, .inl (k_14, 4, .inl (fun _ => 0))), (q_15, .inl (k_16, 8000, .inl (fun _ => 0))), (q_17, .inl (k_18, 8000, .inl (fun _ => 0))), (q_19, .inl (k_20, 8000, .inl (fun _ => 0))), (q_21, .inl (k_22, 8000, .inl (fun _ => 0))), (q_23, .inl (k_24, 4, .inl (fun _ => 0))), (q_25, .inl (k_26, 4, .inl (fun _ => 0))), (q_27, .inl (k_28, 4, .inl (fun _ => 0))), (q_29, .inl (k_30, 4, .inl (fun _ => 0)))] H := hP
  have hD : va_D A [(g0, .inr (4, [.ref q_1, .ref q_3, .ref q_5, .ref q_7, .ref q_9, .ref q_11, .ref q_13, .ref q_15, .ref q_17, .ref q_19, .ref q_21, .ref q_23, .ref q_25, .ref q_27, .ref q_29, .null, .null, .null, .int 0, .null, .int 0, .int 0, .int 0])), (q_1, .inl (k_2, 4, .inl (fun _ => 0))), (q_3, .inl (k_4, 4, .inl (fun _ => 0))), (q_5, .inl (k_6, 4, .inl (fun _ => 0))), (q_7, .inl (k_8, 4, .inl (fun _ => 0))), (q_9, .inl (k_10, 4, .inl (fun _ => 0))), (q_11, .inl (k_12, 8000, .inl (fun _ => 0))), (q_13, .inl (k_14, 4, .inl (fun _ => 0))), (q_15, .inl (k_16, 8000, .inl (fun _ => 0))), (q_17, .inl (k_18, 8000, .inl (fun _ => 0))), (q_19, .inl (k_20, 8000, .inl (fun _ => 0))), (q_21, .inl (k_22, 8000, .inl (fun _ => 0))), (q_23, .inl (k_24, 4, .inl (fun _ => 0))), (q_25, .inl (k_26, 4, .inl (fun _ => 0))), (q_27, .inl (k_28, 4, .inl (fun _ => 0))), (q_29, .inl (k_30, 4, .inl (fun _ => 0)))] := hD
  refine lv_aload_n hx hb dX5_init_119 rfl (lv_at hl 0 rfl) ?_
  refine lv_iconst (v := 4) hx hb dX5_init_120 (by decide) ?_
  refine va_newa (atype := .int) (ty := .int) (a0 := (4, .inl (fun _ => 0))) (N' := 4) hx hb (hts (.arrayClass .int) (by decide +kernel)) rfl hK hP hD hS hA (fun cA => vp_cell_i cA 4 (fun _ => 0)) (by decide +kernel) (by decide +kernel) (by decide +kernel) (Nat.le_of_ble_eq_true rfl) (Nat.le_of_ble_eq_true rfl) dX5_init_121 (fun q_31 k_32 H hK hP hD hS => ?_)
  have hP : va_P (dC, dI) vwCl [(g0, .inr (4, [.ref q_1, .ref q_3, .ref q_5, .ref q_7, .ref q_9, .ref q_11, .ref q_13, .ref q_15, .ref q_17, .ref q_19, .ref q_21, .ref q_23, .ref q_25, .ref q_27, .ref q_29, .null, .null, .null, .int 0, .null, .int 0, .int 0, .int 0])), (q_1, .inl (k_2, 4, .inl (fun _ => 0))), (q_3, .inl (k_4, 4, .inl (fun _ => 0))), (q_5, .inl (k_6, 4, .inl (fun _ => 0))), (q_7, .inl (k_8, 4, .inl (fun _ => 0))), (q_9, .inl (k_10, 4, .inl (fun _ => 0))), (q_11, .inl (k_12, 8000, .inl (fun _ => 0))), (q_13, .inl (k_14, 4, .inl (fun _ => 0))), (q_15, .inl (k_16, 8000, .inl (fun _ => 0))), (q_17, .inl (k_18, 8000, .inl (fun _ => 0))), (q_19, .inl (k_20, 8000, .inl (fun _ => 0))), (q_21, .inl (k_22, 8000, .inl (fun _ => 0))), (q_23, .inl (k_24, 4, .inl (fun _ => 0))), (q_25, .inl (k_26, 4, .inl (fun _ => 0))), (q_27, .inl (k_28, 4, .inl (fun _ => 0))), (q_29, .inl (k_30, 4, .inl (fun _ => 0))), (q_31, .inl (k_32, 4, .inl (fun _ => 0)))] H := hP
  have hD : va_D A [(g0, .inr (4, [.ref q_1, .ref q_3, .ref q_5, .ref q_7, .ref q_9, .ref q_11, .ref q_13, .ref q_15, .ref q_17, .ref q_19, .ref q_21, .ref q_23, .ref q_25, .ref q_27, .ref q_29, .null, .null, .null, .int 0, .null, .int 0, .int 0, .int 0])), (q_1, .inl (k_2, 4, .inl (fun _ => 0))), (q_3, .inl (k_4, 4, .inl (fun _ => 0))), (q_5, .inl (k_6, 4, .inl (fun _ => 0))), (q_7, .inl (k_8, 4, .inl (fun _ => 0))), (q_9, .inl (k_10, 4, .inl (fun _ => 0))), (q_11, .inl (k_12, 8000, .inl (fun _ => 0))), (q_13, .inl (k_14, 4, .inl (fun _ => 0))), (q_15, .inl (k_16, 8000, .inl (fun _ => 0))), (q_17, .inl (k_18, 8000, .inl (fun _ => 0))), (q_19, .inl (k_20, 8000, .inl (fun _ => 0))), (q_21, .inl (k_22, 8000, .inl (fun _ => 0))), (q_23, .inl (k_24, 4, .inl (fun _ => 0))), (q_25, .inl (k_26, 4, .inl (fun _ => 0))), (q_27, .inl (k_28, 4, .inl (fun _ => 0))), (q_29, .inl (k_30, 4, .inl (fun _ => 0))), (q_31, .inl (k_32, 4, .inl (fun _ => 0)))] := hD
  have hK : va_K (dC, dI) vwCl [(k_2, .boolean), (k_4, .boolean), (k_6, .int), (k_8, .int), (k_10, .int), (k_12, .int), (k_14, .int), (k_16, .int), (k_18, .int), (k_20, .int), (k_22, .boolean), (k_24, .int), (k_26, .int), (k_28, .int), (k_30, .int), (k_32, .int)] s := hK
  refine W.widen (k := 16) (n := 40044) (by omega) (by omega) ?_
  refine va_putF (D := (dC, dI)) (ci := 4) (v := .ref q_31) (ty := .array (.int)) (C := RX5) (T := TX5) (N := 23) hx hb hts (by decide +kernel) tyX5 tyX5_ok nmX5 hown hK hP hD hS 0 rfl rfl 15 (by decide) (hts (.fieldLink RX5 56 "SignFormsModel" "firstSubpart" "[I") (by decide +kernel)) (fun _ h9 => h9) rfl hin rfl (by decide +kernel) rfl rfl (Nat.le_of_ble_eq_true rfl) dX5_init_123 (fun H locs hP hD hS => ?_)
  have hP : va_P (dC, dI) vwCl [(g0, .inr (4, [.ref q_1, .ref q_3, .ref q_5, .ref q_7, .ref q_9, .ref q_11, .ref q_13, .ref q_15, .ref q_17, .ref q_19, .ref q_21, .ref q_23, .ref q_25, .ref q_27, .ref q_29, .ref q_31, .null, .null, .int 0, .null, .int 0, .int 0, .int 0])), (q_1, .inl (k_2, 4, .inl (fun _ => 0))), (q_3, .inl (k_4, 4, .inl (fun _ => 0))), (q_5, .inl (k_6, 4, .inl (fun _ => 0))), (q_7, .inl (k_8, 4, .inl (fun _ => 0))), (q_9, .inl (k_10, 4, .inl (fun _ => 0))), (q_11, .inl (k_12, 8000, .inl (fun _ => 0))), (q_13, .inl (k_14, 4, .inl (fun _ => 0))), (q_15, .inl (k_16, 8000, .inl (fun _ => 0))), (q_17, .inl (k_18, 8000, .inl (fun _ => 0))), (q_19, .inl (k_20, 8000, .inl (fun _ => 0))), (q_21, .inl (k_22, 8000, .inl (fun _ => 0))), (q_23, .inl (k_24, 4, .inl (fun _ => 0))), (q_25, .inl (k_26, 4, .inl (fun _ => 0))), (q_27, .inl (k_28, 4, .inl (fun _ => 0))), (q_29, .inl (k_30, 4, .inl (fun _ => 0))), (q_31, .inl (k_32, 4, .inl (fun _ => 0)))] H := hP
  have hD : va_D A [(g0, .inr (4, [.ref q_1, .ref q_3, .ref q_5, .ref q_7, .ref q_9, .ref q_11, .ref q_13, .ref q_15, .ref q_17, .ref q_19, .ref q_21, .ref q_23, .ref q_25, .ref q_27, .ref q_29, .ref q_31, .null, .null, .int 0, .null, .int 0, .int 0, .int 0])), (q_1, .inl (k_2, 4, .inl (fun _ => 0))), (q_3, .inl (k_4, 4, .inl (fun _ => 0))), (q_5, .inl (k_6, 4, .inl (fun _ => 0))), (q_7, .inl (k_8, 4, .inl (fun _ => 0))), (q_9, .inl (k_10, 4, .inl (fun _ => 0))), (q_11, .inl (k_12, 8000, .inl (fun _ => 0))), (q_13, .inl (k_14, 4, .inl (fun _ => 0))), (q_15, .inl (k_16, 8000, .inl (fun _ => 0))), (q_17, .inl (k_18, 8000, .inl (fun _ => 0))), (q_19, .inl (k_20, 8000, .inl (fun _ => 0))), (q_21, .inl (k_22, 8000, .inl (fun _ => 0))), (q_23, .inl (k_24, 4, .inl (fun _ => 0))), (q_25, .inl (k_26, 4, .inl (fun _ => 0))), (q_27, .inl (k_28, 4, .inl (fun _ => 0))), (q_29, .inl (k_30, 4, .inl (fun _ => 0))), (q_31, .inl (k_32, 4, .inl (fun _ => 0)))] := hD
  refine lv_aload_n hx hb dX5_init_126 rfl (lv_at hl 0 rfl) ?_
  refine lv_iconst (v := 4) hx hb dX5_init_127 (by decide) ?_
  refine va_newa (atype := .boolean) (ty := .boolean) (a0 := (4, .inl (fun _ => 0))) (N' := 4) hx hb (hts (.arrayClass .boolean) (by decide +kernel)) rfl hK hP hD hS hA (fun cA => vp_cell_i cA 4 (fun _ => 0)) (by decide +kernel) (by decide +kernel) (by decide +kernel) (Nat.le_of_ble_eq_true rfl) (Nat.le_of_ble_eq_true rfl) dX5_init_128 (fun q_33 k_34 H hK hP hD hS => ?_)
  have hP : va_P (dC, dI) vwCl [(g0, .inr (4, [.ref q_1, .ref q_3, .ref q_5, .ref q_7, .ref q_9, .ref q_11, .ref q_13, .ref q_15, .ref q_17, .ref q_19, .ref q_21, .ref q_23, .ref q_25, .ref q_27, .ref q_29, .ref q_31, .null, .null, .int 0, .null, .int 0, .int 0, .int 0])), (q_1, .inl (k_2, 4, .inl (fun _ => 0))), (q_3, .inl (k_4, 4, .inl (fun _ => 0))), (q_5, .inl (k_6, 4, .inl (fun _ => 0))), (q_7, .inl (k_8, 4, .inl (fun _ => 0))), (q_9, .inl (k_10, 4, .inl (fun _ => 0))), (q_11, .inl (k_12, 8000, .inl (fun _ => 0))), (q_13, .inl (k_14, 4, .inl (fun _ => 0))), (q_15, .inl (k_16, 8000, .inl (fun _ => 0))), (q_17, .inl (k_18, 8000, .inl (fun _ => 0))), (q_19, .inl (k_20, 8000, .inl (fun _ => 0))), (q_21, .inl (k_22, 8000, .inl (fun _ => 0))), (q_23, .inl (k_24, 4, .inl (fun _ => 0))), (q_25, .inl (k_26, 4, .inl (fun _ => 0))), (q_27, .inl (k_28, 4, .inl (fun _ => 0))), (q_29, .inl (k_30, 4, .inl (fun _ => 0))), (q_31, .inl (k_32, 4, .inl (fun _ => 0))), (q_33, .inl (k_34, 4, .inl (fun _ => 0)))] H := hP
  have hD : va_D A [(g0, .inr (4, [.ref q_1, .ref q_3, .ref q_5, .ref q_7, .ref q_9, .ref q_11, .ref q_13, .ref q_15, .ref q_17, .ref q_19, .ref q_21, .ref q_23, .ref q_25, .ref q_27, .ref q_29, .ref q_31, .null, .null, .int 0, .null, .int 0, .int 0, .int 0])), (q_1, .inl (k_2, 4, .inl (fun _ => 0))), (q_3, .inl (k_4, 4, .inl (fun _ => 0))), (q_5, .inl (k_6, 4, .inl (fun _ => 0))), (q_7, .inl (k_8, 4, .inl (fun _ => 0))), (q_9, .inl (k_10, 4, .inl (fun _ => 0))), (q_11, .inl (k_12, 8000, .inl (fun _ => 0))), (q_13, .inl (k_14, 4, .inl (fun _ => 0))), (q_15, .inl (k_16, 8000, .inl (fun _ => 0))), (q_17, .inl (k_18, 8000, .inl (fun _ => 0))), (q_19, .inl (k_20, 8000, .inl (fun _ => 0))), (q_21, .inl (k_22, 8000, .inl (fun _ => 0))), (q_23, .inl (k_24, 4, .inl (fun _ => 0))), (q_25, .inl (k_26, 4, .inl (fun _ => 0))), (q_27, .inl (k_28, 4, .inl (fun _ => 0))), (q_29, .inl (k_30, 4, .inl (fun _ => 0))), (q_31, .inl (k_32, 4, .inl (fun _ => 0))), (q_33, .inl (k_34, 4, .inl (fun _ => 0)))] := hD
  have hK : va_K (dC, dI) vwCl [(k_2, .boolean), (k_4, .boolean), (k_6, .int), (k_8, .int), (k_10, .int), (k_12, .int), (k_14, .int), (k_16, .int), (k_18, .int), (k_20, .int), (k_22, .boolean), (k_24, .int), (k_26, .int), (k_28, .int), (k_30, .int), (k_32, .int), (k_34, .boolean)] s := hK
  refine W.widen (k := 17) (n := 40048) (by omega) (by omega) ?_
  refine va_putF (D := (dC, dI)) (ci := 4) (v := .ref q_33) (ty := .array (.boolean)) (C := RX5) (T := TX5) (N := 23) hx hb hts (by decide +kernel) tyX5 tyX5_ok nmX5 hown hK hP hD hS 0 rfl rfl 16 (by decide) (hts (.fieldLink RX5 59 "SignFormsModel" "isMarked" "[Z") (by decide +kernel)) (fun _ h9 => h9) rfl hin rfl (by decide +kernel) rfl rfl (Nat.le_of_ble_eq_true rfl) dX5_init_130 (fun H locs hP hD hS => ?_)
  have hP : va_P (dC, dI) vwCl [(g0, .inr (4, [.ref q_1, .ref q_3, .ref q_5, .ref q_7, .ref q_9, .ref q_11, .ref q_13, .ref q_15, .ref q_17, .ref q_19, .ref q_21, .ref q_23, .ref q_25, .ref q_27, .ref q_29, .ref q_31, .ref q_33, .null, .int 0, .null, .int 0, .int 0, .int 0])), (q_1, .inl (k_2, 4, .inl (fun _ => 0))), (q_3, .inl (k_4, 4, .inl (fun _ => 0))), (q_5, .inl (k_6, 4, .inl (fun _ => 0))), (q_7, .inl (k_8, 4, .inl (fun _ => 0))), (q_9, .inl (k_10, 4, .inl (fun _ => 0))), (q_11, .inl (k_12, 8000, .inl (fun _ => 0))), (q_13, .inl (k_14, 4, .inl (fun _ => 0))), (q_15, .inl (k_16, 8000, .inl (fun _ => 0))), (q_17, .inl (k_18, 8000, .inl (fun _ => 0))), (q_19, .inl (k_20, 8000, .inl (fun _ => 0))), (q_21, .inl (k_22, 8000, .inl (fun _ => 0))), (q_23, .inl (k_24, 4, .inl (fun _ => 0))), (q_25, .inl (k_26, 4, .inl (fun _ => 0))), (q_27, .inl (k_28, 4, .inl (fun _ => 0))), (q_29, .inl (k_30, 4, .inl (fun _ => 0))), (q_31, .inl (k_32, 4, .inl (fun _ => 0))), (q_33, .inl (k_34, 4, .inl (fun _ => 0)))] H := hP
  have hD : va_D A [(g0, .inr (4, [.ref q_1, .ref q_3, .ref q_5, .ref q_7, .ref q_9, .ref q_11, .ref q_13, .ref q_15, .ref q_17, .ref q_19, .ref q_21, .ref q_23, .ref q_25, .ref q_27, .ref q_29, .ref q_31, .ref q_33, .null, .int 0, .null, .int 0, .int 0, .int 0])), (q_1, .inl (k_2, 4, .inl (fun _ => 0))), (q_3, .inl (k_4, 4, .inl (fun _ => 0))), (q_5, .inl (k_6, 4, .inl (fun _ => 0))), (q_7, .inl (k_8, 4, .inl (fun _ => 0))), (q_9, .inl (k_10, 4, .inl (fun _ => 0))), (q_11, .inl (k_12, 8000, .inl (fun _ => 0))), (q_13, .inl (k_14, 4, .inl (fun _ => 0))), (q_15, .inl (k_16, 8000, .inl (fun _ => 0))), (q_17, .inl (k_18, 8000, .inl (fun _ => 0))), (q_19, .inl (k_20, 8000, .inl (fun _ => 0))), (q_21, .inl (k_22, 8000, .inl (fun _ => 0))), (q_23, .inl (k_24, 4, .inl (fun _ => 0))), (q_25, .inl (k_26, 4, .inl (fun _ => 0))), (q_27, .inl (k_28, 4, .inl (fun _ => 0))), (q_29, .inl (k_30, 4, .inl (fun _ => 0))), (q_31, .inl (k_32, 4, .inl (fun _ => 0))), (q_33, .inl (k_34, 4, .inl (fun _ => 0)))] := hD
  refine lv_aload_n hx hb dX5_init_133 rfl (lv_at hl 0 rfl) ?_
  refine lv_sipush (v := 6000) hx hb dX5_init_134 (by decide +kernel) ?_
  refine va_newa (atype := .int) (ty := .int) (a0 := (6000, .inl (fun _ => 0))) (N' := 6000) hx hb (hts (.arrayClass .int) (by decide +kernel)) rfl hK hP hD hS hA (fun cA => vp_cell_i cA 6000 (fun _ => 0)) (by decide +kernel) (by decide +kernel) (by decide +kernel) (Nat.le_of_ble_eq_true rfl) (Nat.le_of_ble_eq_true rfl) dX5_init_137 (fun q_35 k_36 H hK hP hD hS => ?_)
  have hP : va_P (dC, dI) vwCl [(g0, .inr (4, [.ref q_1, .ref q_3, .ref q_5, .ref q_7, .ref q_9, .ref q_11, .ref q_13, .ref q_15, .ref q_17, .ref q_19, .ref q_21, .ref q_23, .ref q_25, .ref q_27, .ref q_29, .ref q_31, .ref q_33, .null, .int 0, .null, .int 0, .int 0, .int 0])), (q_1, .inl (k_2, 4, .inl (fun _ => 0))), (q_3, .inl (k_4, 4, .inl (fun _ => 0))), (q_5, .inl (k_6, 4, .inl (fun _ => 0))), (q_7, .inl (k_8, 4, .inl (fun _ => 0))), (q_9, .inl (k_10, 4, .inl (fun _ => 0))), (q_11, .inl (k_12, 8000, .inl (fun _ => 0))), (q_13, .inl (k_14, 4, .inl (fun _ => 0))), (q_15, .inl (k_16, 8000, .inl (fun _ => 0))), (q_17, .inl (k_18, 8000, .inl (fun _ => 0))), (q_19, .inl (k_20, 8000, .inl (fun _ => 0))), (q_21, .inl (k_22, 8000, .inl (fun _ => 0))), (q_23, .inl (k_24, 4, .inl (fun _ => 0))), (q_25, .inl (k_26, 4, .inl (fun _ => 0))), (q_27, .inl (k_28, 4, .inl (fun _ => 0))), (q_29, .inl (k_30, 4, .inl (fun _ => 0))), (q_31, .inl (k_32, 4, .inl (fun _ => 0))), (q_33, .inl (k_34, 4, .inl (fun _ => 0))), (q_35, .inl (k_36, 6000, .inl (fun _ => 0)))] H := hP
  have hD : va_D A [(g0, .inr (4, [.ref q_1, .ref q_3, .ref q_5, .ref q_7, .ref q_9, .ref q_11, .ref q_13, .ref q_15, .ref q_17, .ref q_19, .ref q_21, .ref q_23, .ref q_25, .ref q_27, .ref q_29, .ref q_31, .ref q_33, .null, .int 0, .null, .int 0, .int 0, .int 0])), (q_1, .inl (k_2, 4, .inl (fun _ => 0))), (q_3, .inl (k_4, 4, .inl (fun _ => 0))), (q_5, .inl (k_6, 4, .inl (fun _ => 0))), (q_7, .inl (k_8, 4, .inl (fun _ => 0))), (q_9, .inl (k_10, 4, .inl (fun _ => 0))), (q_11, .inl (k_12, 8000, .inl (fun _ => 0))), (q_13, .inl (k_14, 4, .inl (fun _ => 0))), (q_15, .inl (k_16, 8000, .inl (fun _ => 0))), (q_17, .inl (k_18, 8000, .inl (fun _ => 0))), (q_19, .inl (k_20, 8000, .inl (fun _ => 0))), (q_21, .inl (k_22, 8000, .inl (fun _ => 0))), (q_23, .inl (k_24, 4, .inl (fun _ => 0))), (q_25, .inl (k_26, 4, .inl (fun _ => 0))), (q_27, .inl (k_28, 4, .inl (fun _ => 0))), (q_29, .inl (k_30, 4, .inl (fun _ => 0))), (q_31, .inl (k_32, 4, .inl (fun _ => 0))), (q_33, .inl (k_34, 4, .inl (fun _ => 0))), (q_35, .inl (k_36, 6000, .inl (fun _ => 0)))] := hD
  have hK : va_K (dC, dI) vwCl [(k_2, .boolean), (k_4, .boolean), (k_6, .int), (k_8, .int), (k_10, .int), (k_12, .int), (k_14, .int), (k_16, .int), (k_18, .int), (k_20, .int), (k_22, .boolean), (k_24, .int), (k_26, .int), (k_28, .int), (k_30, .int), (k_32, .int), (k_34, .boolean), (k_36, .int)] s := hK
  refine W.widen (k := 18) (n := 46048) (by omega) (by omega) ?_
  refine va_putF (D := (dC, dI)) (ci := 4) (v := .ref q_35) (ty := .array (.int)) (C := RX5) (T := TX5) (N := 23) hx hb hts (by decide +kernel) tyX5 tyX5_ok nmX5 hown hK hP hD hS 0 rfl rfl 17 (by decide) (hts (.fieldLink RX5 62 "SignFormsModel" "out" "[I") (by decide +kernel)) (fun _ h9 => h9) rfl hin rfl (by decide +kernel) rfl rfl (Nat.le_of_ble_eq_true rfl) dX5_init_139 (fun H locs hP hD hS => ?_)
  have hP : va_P (dC, dI) vwCl [(g0, .inr (4, [.ref q_1, .ref q_3, .ref q_5, .ref q_7, .ref q_9, .ref q_11, .ref q_13, .ref q_15, .ref q_17, .ref q_19, .ref q_21, .ref q_23, .ref q_25, .ref q_27, .ref q_29, .ref q_31, .ref q_33, .ref q_35, .int 0, .null, .int 0, .int 0, .int 0])), (q_1, .inl (k_2, 4, .inl (fun _ => 0))), (q_3, .inl (k_4, 4, .inl (fun _ => 0))), (q_5, .inl (k_6, 4, .inl (fun _ => 0))), (q_7, .inl (k_8, 4, .inl (fun _ => 0))), (q_9, .inl (k_10, 4, .inl (fun _ => 0))), (q_11, .inl (k_12, 8000, .inl (fun _ => 0))), (q_13, .inl (k_14, 4, .inl (fun _ => 0))), (q_15, .inl (k_16, 8000, .inl (fun _ => 0))), (q_17, .inl (k_18, 8000, .inl (fun _ => 0))), (q_19, .inl (k_20, 8000, .inl (fun _ => 0))), (q_21, .inl (k_22, 8000, .inl (fun _ => 0))), (q_23, .inl (k_24, 4, .inl (fun _ => 0))), (q_25, .inl (k_26, 4, .inl (fun _ => 0))), (q_27, .inl (k_28, 4, .inl (fun _ => 0))), (q_29, .inl (k_30, 4, .inl (fun _ => 0))), (q_31, .inl (k_32, 4, .inl (fun _ => 0))), (q_33, .inl (k_34, 4, .inl (fun _ => 0))), (q_35, .inl (k_36, 6000, .inl (fun _ => 0)))] H := hP
  have hD : va_D A [(g0, .inr (4, [.ref q_1, .ref q_3, .ref q_5, .ref q_7, .ref q_9, .ref q_11, .ref q_13, .ref q_15, .ref q_17, .ref q_19, .ref q_21, .ref q_23, .ref q_25, .ref q_27, .ref q_29, .ref q_31, .ref q_33, .ref q_35, .int 0, .null, .int 0, .int 0, .int 0])), (q_1, .inl (k_2, 4, .inl (fun _ => 0))), (q_3, .inl (k_4, 4, .inl (fun _ => 0))), (q_5, .inl (k_6, 4, .inl (fun _ => 0))), (q_7, .inl (k_8, 4, .inl (fun _ => 0))), (q_9, .inl (k_10, 4, .inl (fun _ => 0))), (q_11, .inl (k_12, 8000, .inl (fun _ => 0))), (q_13, .inl (k_14, 4, .inl (fun _ => 0))), (q_15, .inl (k_16, 8000, .inl (fun _ => 0))), (q_17, .inl (k_18, 8000, .inl (fun _ => 0))), (q_19, .inl (k_20, 8000, .inl (fun _ => 0))), (q_21, .inl (k_22, 8000, .inl (fun _ => 0))), (q_23, .inl (k_24, 4, .inl (fun _ => 0))), (q_25, .inl (k_26, 4, .inl (fun _ => 0))), (q_27, .inl (k_28, 4, .inl (fun _ => 0))), (q_29, .inl (k_30, 4, .inl (fun _ => 0))), (q_31, .inl (k_32, 4, .inl (fun _ => 0))), (q_33, .inl (k_34, 4, .inl (fun _ => 0))), (q_35, .inl (k_36, 6000, .inl (fun _ => 0)))] := hD
  refine lv_aload_n hx hb dX5_init_142 rfl (lv_at hl 0 rfl) ?_
  refine lv_sipush (v := 6000) hx hb dX5_init_143 (by decide +kernel) ?_
  refine va_newa (atype := .int) (ty := .int) (a0 := (6000, .inl (fun _ => 0))) (N' := 6000) hx hb (hts (.arrayClass .int) (by decide +kernel)) rfl hK hP hD hS hA (fun cA => vp_cell_i cA 6000 (fun _ => 0)) (by decide +kernel) (by decide +kernel) (by decide +kernel) (Nat.le_of_ble_eq_true rfl) (Nat.le_of_ble_eq_true rfl) dX5_init_146 (fun q_37 k_38 H hK hP hD hS => ?_)
  have hP : va_P (dC, dI) vwCl [(g0, .inr (4, [.ref q_1, .ref q_3, .ref q_5, .ref q_7, .ref q_9, .ref q_11, .ref q_13, .ref q_15, .ref q_17, .ref q_19, .ref q_21, .ref q_23, .ref q_25, .ref q_27, .ref q_29, .ref q_31, .ref q_33, .ref q_35, .int 0, .null, .int 0, .int 0, .int 0])), (q_1, .inl (k_2, 4, .inl (fun _ => 0))), (q_3, .inl (k_4, 4, .inl (fun _ => 0))), (q_5, .inl (k_6, 4, .inl (fun _ => 0))), (q_7, .inl (k_8, 4, .inl (fun _ => 0))), (q_9, .inl (k_10, 4, .inl (fun _ => 0))), (q_11, .inl (k_12, 8000, .inl (fun _ => 0))), (q_13, .inl (k_14, 4, .inl (fun _ => 0))), (q_15, .inl (k_16, 8000, .inl (fun _ => 0))), (q_17, .inl (k_18, 8000, .inl (fun _ => 0))), (q_19, .inl (k_20, 8000, .inl (fun _ => 0))), (q_21, .inl (k_22, 8000, .inl (fun _ => 0))), (q_23, .inl (k_24, 4, .inl (fun _ => 0))), (q_25, .inl (k_26, 4, .inl (fun _ => 0))), (q_27, .inl (k_28, 4, .inl (fun _ => 0))), (q_29, .inl (k_30, 4, .inl (fun _ => 0))), (q_31, .inl (k_32, 4, .inl (fun _ => 0))), (q_33, .inl (k_34, 4, .inl (fun _ => 0))), (q_35, .inl (k_36, 6000, .inl (fun _ => 0))), (q_37, .inl (k_38, 6000, .inl (fun _ => 0)))] H := hP
  have hD : va_D A [(g0, .inr (4, [.ref q_1, .ref q_3, .ref q_5, .ref q_7, .ref q_9, .ref q_11, .ref q_13, .ref q_15, .ref q_17, .ref q_19, .ref q_21, .ref q_23, .ref q_25, .ref q_27, .ref q_29, .ref q_31, .ref q_33, .ref q_35, .int 0, .null, .int 0, .int 0, .int 0])), (q_1, .inl (k_2, 4, .inl (fun _ => 0))), (q_3, .inl (k_4, 4, .inl (fun _ => 0))), (q_5, .inl (k_6, 4, .inl (fun _ => 0))), (q_7, .inl (k_8, 4, .inl (fun _ => 0))), (q_9, .inl (k_10, 4, .inl (fun _ => 0))), (q_11, .inl (k_12, 8000, .inl (fun _ => 0))), (q_13, .inl (k_14, 4, .inl (fun _ => 0))), (q_15, .inl (k_16, 8000, .inl (fun _ => 0))), (q_17, .inl (k_18, 8000, .inl (fun _ => 0))), (q_19, .inl (k_20, 8000, .inl (fun _ => 0))), (q_21, .inl (k_22, 8000, .inl (fun _ => 0))), (q_23, .inl (k_24, 4, .inl (fun _ => 0))), (q_25, .inl (k_26, 4, .inl (fun _ => 0))), (q_27, .inl (k_28, 4, .inl (fun _ => 0))), (q_29, .inl (k_30, 4, .inl (fun _ => 0))), (q_31, .inl (k_32, 4, .inl (fun _ => 0))), (q_33, .inl (k_34, 4, .inl (fun _ => 0))), (q_35, .inl (k_36, 6000, .inl (fun _ => 0))), (q_37, .inl (k_38, 6000, .inl (fun _ => 0)))] := hD
  have hK : va_K (dC, dI) vwCl [(k_2, .boolean), (k_4, .boolean), (k_6, .int), (k_8, .int), (k_10, .int), (k_12, .int), (k_14, .int), (k_16, .int), (k_18, .int), (k_20, .int), (k_22, .boolean), (k_24, .int), (k_26, .int), (k_28, .int), (k_30, .int), (k_32, .int), (k_34, .boolean), (k_36, .int), (k_38, .int)] s := hK
  refine W.widen (k := 19) (n := 52048) (by omega) (by omega) ?_
  refine va_putF (D := (dC, dI)) (ci := 4) (v := .ref q_37) (ty := .array (.int)) (C := RX5) (T := TX5) (N := 23) hx hb hts (by decide +kernel) tyX5 tyX5_ok nmX5 hown hK hP hD hS 0 rfl rfl 19 (by decide) (hts (.fieldLink RX5 65 "SignFormsModel" "row" "[I") (by decide +kernel)) (fun _ h9 => h9) rfl hin rfl (by decide +kernel) rfl rfl (Nat.le_of_ble_eq_true rfl) dX5_init_148 (fun H locs hP hD hS => ?_)
  have hP : va_P (dC, dI) vwCl [(g0, .inr (4, [.ref q_1, .ref q_3, .ref q_5, .ref q_7, .ref q_9, .ref q_11, .ref q_13, .ref q_15, .ref q_17, .ref q_19, .ref q_21, .ref q_23, .ref q_25, .ref q_27, .ref q_29, .ref q_31, .ref q_33, .ref q_35, .int 0, .ref q_37, .int 0, .int 0, .int 0])), (q_1, .inl (k_2, 4, .inl (fun _ => 0))), (q_3, .inl (k_4, 4, .inl (fun _ => 0))), (q_5, .inl (k_6, 4, .inl (fun _ => 0))), (q_7, .inl (k_8, 4, .inl (fun _ => 0))), (q_9, .inl (k_10, 4, .inl (fun _ => 0))), (q_11, .inl (k_12, 8000, .inl (fun _ => 0))), (q_13, .inl (k_14, 4, .inl (fun _ => 0))), (q_15, .inl (k_16, 8000, .inl (fun _ => 0))), (q_17, .inl (k_18, 8000, .inl (fun _ => 0))), (q_19, .inl (k_20, 8000, .inl (fun _ => 0))), (q_21, .inl (k_22, 8000, .inl (fun _ => 0))), (q_23, .inl (k_24, 4, .inl (fun _ => 0))), (q_25, .inl (k_26, 4, .inl (fun _ => 0))), (q_27, .inl (k_28, 4, .inl (fun _ => 0))), (q_29, .inl (k_30, 4, .inl (fun _ => 0))), (q_31, .inl (k_32, 4, .inl (fun _ => 0))), (q_33, .inl (k_34, 4, .inl (fun _ => 0))), (q_35, .inl (k_36, 6000, .inl (fun _ => 0))), (q_37, .inl (k_38, 6000, .inl (fun _ => 0)))] H := hP
  have hD : va_D A [(g0, .inr (4, [.ref q_1, .ref q_3, .ref q_5, .ref q_7, .ref q_9, .ref q_11, .ref q_13, .ref q_15, .ref q_17, .ref q_19, .ref q_21, .ref q_23, .ref q_25, .ref q_27, .ref q_29, .ref q_31, .ref q_33, .ref q_35, .int 0, .ref q_37, .int 0, .int 0, .int 0])), (q_1, .inl (k_2, 4, .inl (fun _ => 0))), (q_3, .inl (k_4, 4, .inl (fun _ => 0))), (q_5, .inl (k_6, 4, .inl (fun _ => 0))), (q_7, .inl (k_8, 4, .inl (fun _ => 0))), (q_9, .inl (k_10, 4, .inl (fun _ => 0))), (q_11, .inl (k_12, 8000, .inl (fun _ => 0))), (q_13, .inl (k_14, 4, .inl (fun _ => 0))), (q_15, .inl (k_16, 8000, .inl (fun _ => 0))), (q_17, .inl (k_18, 8000, .inl (fun _ => 0))), (q_19, .inl (k_20, 8000, .inl (fun _ => 0))), (q_21, .inl (k_22, 8000, .inl (fun _ => 0))), (q_23, .inl (k_24, 4, .inl (fun _ => 0))), (q_25, .inl (k_26, 4, .inl (fun _ => 0))), (q_27, .inl (k_28, 4, .inl (fun _ => 0))), (q_29, .inl (k_30, 4, .inl (fun _ => 0))), (q_31, .inl (k_32, 4, .inl (fun _ => 0))), (q_33, .inl (k_34, 4, .inl (fun _ => 0))), (q_35, .inl (k_36, 6000, .inl (fun _ => 0))), (q_37, .inl (k_38, 6000, .inl (fun _ => 0)))] := hD
  refine lv_aload_n hx hb dX5_init_151 rfl (lv_at hl 0 rfl) ?_
  refine lv_iconst (v := 0) hx hb dX5_init_152 (by decide) ?_
  refine va_put (D := (dC, dI)) (ci := 4) (v := .int 0) (ty := .int) (C := RX5) (T := TX5) (N := 23) hx hb hts (by decide +kernel) tyX5 tyX5_ok nmX5 hown hK hP hD hS 0 rfl rfl 18 (by decide) (hts (.fieldLink RX5 68 "SignFormsModel" "outSize" "I") (by decide +kernel)) (fun _ h9 => h9) rfl (by decide +kernel) rfl rfl (Nat.le_of_ble_eq_true rfl) dX5_init_153 (fun H locs hP hD hS => ?_)
  have hP : va_P (dC, dI) vwCl [(g0, .inr (4, [.ref q_1, .ref q_3, .ref q_5, .ref q_7, .ref q_9, .ref q_11, .ref q_13, .ref q_15, .ref q_17, .ref q_19, .ref q_21, .ref q_23, .ref q_25, .ref q_27, .ref q_29, .ref q_31, .ref q_33, .ref q_35, .int 0, .ref q_37, .int 0, .int 0, .int 0])), (q_1, .inl (k_2, 4, .inl (fun _ => 0))), (q_3, .inl (k_4, 4, .inl (fun _ => 0))), (q_5, .inl (k_6, 4, .inl (fun _ => 0))), (q_7, .inl (k_8, 4, .inl (fun _ => 0))), (q_9, .inl (k_10, 4, .inl (fun _ => 0))), (q_11, .inl (k_12, 8000, .inl (fun _ => 0))), (q_13, .inl (k_14, 4, .inl (fun _ => 0))), (q_15, .inl (k_16, 8000, .inl (fun _ => 0))), (q_17, .inl (k_18, 8000, .inl (fun _ => 0))), (q_19, .inl (k_20, 8000, .inl (fun _ => 0))), (q_21, .inl (k_22, 8000, .inl (fun _ => 0))), (q_23, .inl (k_24, 4, .inl (fun _ => 0))), (q_25, .inl (k_26, 4, .inl (fun _ => 0))), (q_27, .inl (k_28, 4, .inl (fun _ => 0))), (q_29, .inl (k_30, 4, .inl (fun _ => 0))), (q_31, .inl (k_32, 4, .inl (fun _ => 0))), (q_33, .inl (k_34, 4, .inl (fun _ => 0))), (q_35, .inl (k_36, 6000, .inl (fun _ => 0))), (q_37, .inl (k_38, 6000, .inl (fun _ => 0)))] H := hP
  have hD : va_D A [(g0, .inr (4, [.ref q_1, .ref q_3, .ref q_5, .ref q_7, .ref q_9, .ref q_11, .ref q_13, .ref q_15, .ref q_17, .ref q_19, .ref q_21, .ref q_23, .ref q_25, .ref q_27, .ref q_29, .ref q_31, .ref q_33, .ref q_35, .int 0, .ref q_37, .int 0, .int 0, .int 0])), (q_1, .inl (k_2, 4, .inl (fun _ => 0))), (q_3, .inl (k_4, 4, .inl (fun _ => 0))), (q_5, .inl (k_6, 4, .inl (fun _ => 0))), (q_7, .inl (k_8, 4, .inl (fun _ => 0))), (q_9, .inl (k_10, 4, .inl (fun _ => 0))), (q_11, .inl (k_12, 8000, .inl (fun _ => 0))), (q_13, .inl (k_14, 4, .inl (fun _ => 0))), (q_15, .inl (k_16, 8000, .inl (fun _ => 0))), (q_17, .inl (k_18, 8000, .inl (fun _ => 0))), (q_19, .inl (k_20, 8000, .inl (fun _ => 0))), (q_21, .inl (k_22, 8000, .inl (fun _ => 0))), (q_23, .inl (k_24, 4, .inl (fun _ => 0))), (q_25, .inl (k_26, 4, .inl (fun _ => 0))), (q_27, .inl (k_28, 4, .inl (fun _ => 0))), (q_29, .inl (k_30, 4, .inl (fun _ => 0))), (q_31, .inl (k_32, 4, .inl (fun _ => 0))), (q_33, .inl (k_34, 4, .inl (fun _ => 0))), (q_35, .inl (k_36, 6000, .inl (fun _ => 0))), (q_37, .inl (k_38, 6000, .inl (fun _ => 0)))] := hD
  have hP9 := hP.sub (ws' := [(g0, .inr (4, [.ref q_1, .ref q_3, .ref q_5, .ref q_7, .ref q_9, .ref q_11, .ref q_13, .ref q_15, .ref q_17, .ref q_19, .ref q_21, .ref q_23, .ref q_25, .ref q_27, .ref q_29, .ref q_31, .ref q_33, .ref q_35, .int 0, .ref q_37, .int 0, .int 0, .int 0])), (q_1, .inl (k_2, 4, .inl (fun _ => 0))), (q_3, .inl (k_4, 4, .inl (fun _ => 0))), (q_5, .inl (k_6, 4, .inl (fun _ => 0))), (q_7, .inl (k_8, 4, .inl (fun _ => 0))), (q_9, .inl (k_10, 4, .inl (fun _ => 0))), (q_13, .inl (k_14, 4, .inl (fun _ => 0))), (q_23, .inl (k_24, 4, .inl (fun _ => 0))), (q_25, .inl (k_26, 4, .inl (fun _ => 0))), (q_27, .inl (k_28, 4, .inl (fun _ => 0))), (q_29, .inl (k_30, 4, .inl (fun _ => 0))), (q_31, .inl (k_32, 4, .inl (fun _ => 0))), (q_33, .inl (k_34, 4, .inl (fun _ => 0)))]) [0, 1, 2, 3, 4, 5, 7, 12, 13, 14, 15, 16, 17] rfl
  have hD9 := hD.sub (ws' := [(g0, .inr (4, [.ref q_1, .ref q_3, .ref q_5, .ref q_7, .ref q_9, .ref q_11, .ref q_13, .ref q_15, .ref q_17, .ref q_19, .ref q_21, .ref q_23, .ref q_25, .ref q_27, .ref q_29, .ref q_31, .ref q_33, .ref q_35, .int 0, .ref q_37, .int 0, .int 0, .int 0])), (q_1, .inl (k_2, 4, .inl (fun _ => 0))), (q_3, .inl (k_4, 4, .inl (fun _ => 0))), (q_5, .inl (k_6, 4, .inl (fun _ => 0))), (q_7, .inl (k_8, 4, .inl (fun _ => 0))), (q_9, .inl (k_10, 4, .inl (fun _ => 0))), (q_13, .inl (k_14, 4, .inl (fun _ => 0))), (q_23, .inl (k_24, 4, .inl (fun _ => 0))), (q_25, .inl (k_26, 4, .inl (fun _ => 0))), (q_27, .inl (k_28, 4, .inl (fun _ => 0))), (q_29, .inl (k_30, 4, .inl (fun _ => 0))), (q_31, .inl (k_32, 4, .inl (fun _ => 0))), (q_33, .inl (k_34, 4, .inl (fun _ => 0)))]) [0, 1, 2, 3, 4, 5, 7, 12, 13, 14, 15, 16, 17] (by decide) rfl
  have hK9 := hK.sub (tys' := [(k_2, .boolean), (k_4, .boolean), (k_6, .int), (k_8, .int), (k_10, .int), (k_14, .int), (k_24, .int), (k_26, .int), (k_28, .int), (k_30, .int), (k_32, .int), (k_34, .boolean)]) [0, 1, 2, 3, 4, 6, 11, 12, 13, 14, 15, 16] rfl
  refine W.widen (k := 19) (n := 52048) (by omega) (by omega) ?_
  exact W.vret hx hb hr (fun t ht hW => ⟨⟨(), rfl, trivial, q_1, q_3, q_5, q_7, q_9, q_11, q_13, q_15, q_17, q_19, q_21, q_23, q_25, q_27, q_29, q_31, q_33, q_35, q_37, k_2, k_4, k_6, k_8, k_10, k_14, k_24, k_26, k_28, k_30, k_32, k_34, by rw [ht]; exact hP9, va_K.moved hW.alike hK9, hD9⟩, hS.F ht⟩) hS.2.2 dX5_init_156
end
section
set_option maxHeartbeats 4000000 in
set_option maxRecDepth 100000 in
theorem kX5_isBegun (l : Launch) (dC : Nat → ClassId) (dI : Nat → Nat → Nat) (g0 g1 g2 g3 g4 g5 g6 g7 g8 g9 g10 g11 g12 g13 g14 g15 g16 g17 g18 g19 : Nat) (pv : Int32) (p1 : Int32) (p2 : Int32) (p3 : Int32) (p4 : Int32) (p5 : Int32) : Met l yX5_isBegun wsX5_isBegun ({ frames := 0, cells := 0, slots := 0, locals := 0 } : Room) (va_Pc [.ref g0, .int 0, .int p1, .int p2, .int p3, .int p4, .int p5] (fun U => va_P (dC, dI) vwCl [(g0, .inr (4, [.ref g1, .ref g2, .ref g3, .ref g4, .ref g5, .ref g6, .ref g7, .ref g8, .ref g9, .ref g10, .ref g11, .ref g12, .ref g13, .ref g14, .ref g15, .ref g16, .ref g17, .ref g18, .int 0, .ref g19, .int 0, .int pv, .int 0]))] U.heap ∧ va_K (dC, dI) vwCl [] U)) (vp_Si (fun r => r = 1)) 0 0 (fun _ => False) := by
  refine Met.ofW (cc := cX5_isBegun) (maxL := 10) (ret := (some .boolean)) (by decide) rfl ?_
  intro p e s m args below meth c s₁ B hml hv
  obtain ⟨rfl, hP, hK⟩ := hv
  have hx := B.exec
  have hb := B.bytes
  have hr := B.returns
  have hts := atoms_spec (ws := wsX5_isBegun) B.pre
  have hown : s.vm.findClass RX5 = some m.cls := findClass_of_methodNamed B.named
  have hlocks := B.notSynchronized
  have hl := lv_entry ([.ref g0, .int 0, .int p1, .int p2, .int p3, .int p4, .int p5]) (n := 10) (Nat.le_of_ble_eq_true rfl)
  rw [lg_entry_eq]
  generalize (lg_sl ([.ref g0, .int 0, .int p1, .int p2, .int p3, .int p4, .int p5]) ++ List.replicate (10 - (lg_sl ([.ref g0, .int 0, .int p1, .int p2, .int p3, .int p4, .int p5])).length) Slot.unset).toArray = ls at hl ⊢
  have hl : lv_has ls 10 [(0, .ref g0), (1, .int 0), (2, .int p1), (3, .int p2), (4, .int p3), (5, .int p4), (6, .int p5)] := hl
  refine lv_iconst (v := 1) hx hb dX5_isBegun_0 (by decide) ?_
  refine lv_istore (lv' := [(7, .int 1), (0, .ref g0), (1, .int 0), (2, .int p1), (3, .int p2), (4, .int p3), (5, .int p4), (6, .int p5)]) hx hb dX5_isBegun_1 hl (by decide) rfl (fun ls hl => ?_)
  refine lv_iconst (v := 0) hx hb dX5_isBegun_3 (by decide) ?_
  refine lv_istore (lv' := [(8, .int 0), (7, .int 1), (0, .ref g0), (1, .int 0), (2, .int p1), (3, .int p2), (4, .int p3), (5, .int p4), (6, .int p5)]) hx hb dX5_isBegun_4 hl (by decide) rfl (fun ls hl => ?_)
  refine lv_iload hx hb dX5_isBegun_6 (lv_at hl 0 rfl) ?_
  refine lv_iload_n hx hb dX5_isBegun_8 rfl (lv_at hl 3 rfl) ?_
  refine lv_icmp_ge (tgt := 83) hx hb dX5_isBegun_9 (by decide) (fun _ => ?_) (fun c_1 => False.elim (by revert c_1; decide))
  refine lv_iload hx hb dX5_isBegun_83 (lv_at hl 1 rfl) ?_
  exact W.zret (v := 1) hx hb hr rfl (fun t ht hW => ⟨1, rfl, rfl, ht⟩) (fun q h => by cases h) dX5_isBegun_85
end
section
set_option maxHeartbeats 4000000 in
set_option maxRecDepth 100000 in
theorem kX5_findForm (l : Launch) (dC : Nat → ClassId) (dI : Nat → Nat → Nat) (g0 g1 g2 g3 g4 g5 g6 g7 g8 g9 g10 g11 g12 g13 g14 g15 g16 g17 g18 g19 : Nat) (sz : Nat) : Met l yX5_findForm wsX5_findForm ({ frames := 1, cells := 0, slots := 0, locals := 29 } : Room) (va_Pc [.ref g0, .int 0, .int 0] (fun U => U.heap.size = sz ∧ va_P (dC, dI) vwCl [(g0, .inr (4, [.ref g1, .ref g2, .ref g3, .ref g4, .ref g5, .ref g6, .ref g7, .ref g8, .ref g9, .ref g10, .ref g11, .ref g12, .ref g13, .ref g14, .ref g15, .ref g16, .ref g17, .ref g18, .int 0, .ref g19, .int 0, .int 0, .int 0]))] U.heap ∧ va_K (dC, dI) vwCl [] U ∧ va_D (fun _ => True) [(g0, .inr (4, [.ref g1, .ref g2, .ref g3, .ref g4, .ref g5, .ref g6, .ref g7, .ref g8, .ref g9, .ref g10, .ref g11, .ref g12, .ref g13, .ref g14, .ref g15, .ref g16, .ref g17, .ref g18, .int 0, .ref g19, .int 0, .int 0, .int 0]))])) (va_Qi (fun (r : Int32) (_ : Unit) => r = 0) (fun _ t => va_P (dC, dI) vwCl [(g0, .inr (4, [.ref g1, .ref g2, .ref g3, .ref g4, .ref g5, .ref g6, .ref g7, .ref g8, .ref g9, .ref g10, .ref g11, .ref g12, .ref g13, .ref g14, .ref g15, .ref g16, .ref g17, .ref g18, .int 0, .ref g19, .int 0, .int 6, .int 0]))] t.heap ∧ va_K (dC, dI) vwCl [] t ∧ va_D (va_A [(g0, .inr (4, [.ref g1, .ref g2, .ref g3, .ref g4, .ref g5, .ref g6, .ref g7, .ref g8, .ref g9, .ref g10, .ref g11, .ref g12, .ref g13, .ref g14, .ref g15, .ref g16, .ref g17, .ref g18, .int 0, .ref g19, .int 0, .int 0, .int 0]))] sz) [(g0, .inr (4, [.ref g1, .ref g2, .ref g3, .ref g4, .ref g5, .ref g6, .ref g7, .ref g8, .ref g9, .ref g10, .ref g11, .ref g12, .ref g13, .ref g14, .ref g15, .ref g16, .ref g17, .ref g18, .int 0, .ref g19, .int 0, .int 6, .int 0]))]) (va_A [(g0, .inr (4, [.ref g1, .ref g2, .ref g3, .ref g4, .ref g5, .ref g6, .ref g7, .ref g8, .ref g9, .ref g10, .ref g11, .ref g12, .ref g13, .ref g14, .ref g15, .ref g16, .ref g17, .ref g18, .int 0, .ref g19, .int 0, .int 0, .int 0]))] sz)) 0 0 (va_A [(g0, .inr (4, [.ref g1, .ref g2, .ref g3, .ref g4, .ref g5, .ref g6, .ref g7, .ref g8, .ref g9, .ref g10, .ref g11, .ref g12, .ref g13, .ref g14, .ref g15, .ref g16, .ref g17, .ref g18, .int 0, .ref g19, .int 0, .int 0, .int 0]))] sz) := by
  refine Met.ofW (cc := cX5_findForm) (maxL := 5) (ret := (some .int)) (by decide) rfl ?_
  intro p e s m args below meth c s₁ B hml hv
  obtain ⟨rfl, hsz, hP, hK, hD0⟩ := hv
  have hx := B.exec
  have hb := B.bytes
  have hr := B.returns
  have hts := atoms_spec (ws := wsX5_findForm) B.pre
  have hown : s.vm.findClass RX5 = some m.cls := findClass_of_methodNamed B.named
  have hlocks := B.notSynchronized
  subst hsz
  have hD := hD0.self (sz := s.heap.size)
  generalize hAe : va_A [(g0, .inr (4, [.ref g1, .ref g2, .ref g3, .ref g4, .ref g5, .ref g6, .ref g7, .ref g8, .ref g9, .ref g10, .ref g11, .ref g12, .ref g13, .ref g14, .ref g15, .ref g16, .ref g17, .ref g18, .int 0, .ref g19, .int 0, .int 0, .int 0]))] s.heap.size = A at hD ⊢
  have hA : ∀ q : Nat, s.heap.size ≤ q → A q := fun q h => by rw [← hAe]; exact Or.inr h
  have hS : va_S A s.heap s.heap [] := va_S.rf
  have hl := lv_entry ([.ref g0, .int 0, .int 0]) (n := 5) (Nat.le_of_ble_eq_true rfl)
  rw [lg_entry_eq]
  generalize (lg_sl ([.ref g0, .int 0, .int 0]) ++ List.replicate (5 - (lg_sl ([.ref g0, .int 0, .int 0])).length) Slot.unset).toArray = ls at hl ⊢
  have hl : lv_has ls 5 [(0, .ref g0), (1, .int 0), (2, .int 0)] := hl
  refine lv_aload_n hx hb dX5_findForm_0 rfl (lv_at hl 0 rfl) ?_
  refine lv_bipush (v := 6) hx hb dX5_findForm_1 (by decide +kernel) ?_
  refine va_put (D := (dC, dI)) (ci := 4) (v := .int 6) (ty := .int) (C := RX5) (T := TX5) (N := 23) hx hb hts (by decide +kernel) tyX5 tyX5_ok nmX5 hown hK hP hD hS 0 rfl rfl 21 (by decide) (hts (.fieldLink RX5 86 "SignFormsModel" "partValue" "I") (by decide +kernel)) (fun _ h9 => h9) rfl (by decide +kernel) rfl rfl (Nat.le_of_ble_eq_true rfl) dX5_findForm_3 (fun H locs hP hD hS => ?_)
  have hP : va_P (dC, dI) vwCl [(g0, .inr (4, [.ref g1, .ref g2, .ref g3, .ref g4, .ref g5, .ref g6, .ref g7, .ref g8, .ref g9, .ref g10, .ref g11, .ref g12, .ref g13, .ref g14, .ref g15, .ref g16, .ref g17, .ref g18, .int 0, .ref g19, .int 0, .int 6, .int 0]))] H := hP
  have hD : va_D A [(g0, .inr (4, [.ref g1, .ref g2, .ref g3, .ref g4, .ref g5, .ref g6, .ref g7, .ref g8, .ref g9, .ref g10, .ref g11, .ref g12, .ref g13, .ref g14, .ref g15, .ref g16, .ref g17, .ref g18, .int 0, .ref g19, .int 0, .int 6, .int 0]))] := hD
  refine lv_iload_n hx hb dX5_findForm_6 rfl (lv_at hl 1 rfl) ?_
  refine lv_iconst (v := 3) hx hb dX5_findForm_7 (by decide) ?_
  refine lv_icmp_lt (tgt := 37) hx hb dX5_findForm_8 (by decide) (fun _ => ?_) (fun c_1 => False.elim (by revert c_1; decide))
  refine lv_iload_n hx hb dX5_findForm_37 rfl (lv_at hl 1 rfl) ?_
  refine lv_iconst (v := 4) hx hb dX5_findForm_38 (by decide) ?_
  refine lv_icmp_lt (tgt := 66) hx hb dX5_findForm_39 (by decide) (fun _ => ?_) (fun c_2 => False.elim (by revert c_2; decide))
  refine lv_iload_n hx hb dX5_findForm_66 rfl (lv_at hl 1 rfl) ?_
  refine lv_iconst (v := 4) hx hb dX5_findForm_67 (by decide) ?_
  refine lv_icmp_lt (tgt := 95) hx hb dX5_findForm_68 (by decide) (fun _ => ?_) (fun c_3 => False.elim (by revert c_3; decide))
  refine lv_iload_n hx hb dX5_findForm_95 rfl (lv_at hl 1 rfl) ?_
  refine lv_iconst (v := 2) hx hb dX5_findForm_96 (by decide) ?_
  refine lv_icmp_lt (tgt := 124) hx hb dX5_findForm_97 (by decide) (fun _ => ?_) (fun c_4 => False.elim (by revert c_4; decide))
  refine lv_iload_n hx hb dX5_findForm_124 rfl (lv_at hl 1 rfl) ?_
  refine lv_iconst (v := 2) hx hb dX5_findForm_125 (by decide) ?_
  refine lv_icmp_lt (tgt := 150) hx hb dX5_findForm_126 (by decide) (fun _ => ?_) (fun c_5 => False.elim (by revert c_5; decide))
  refine lv_iconst (v := 0) hx hb dX5_findForm_150 (by decide) ?_
  refine lv_istore_n (lv' := [(3, .int 0), (0, .ref g0), (1, .int 0), (2, .int 0)]) hx hb dX5_findForm_151 rfl hl (by decide) rfl (fun ls hl => ?_)
  refine lv_iload_n hx hb dX5_findForm_152 rfl (lv_at hl 0 rfl) ?_
  refine lv_if_eq (tgt := 184) hx hb dX5_findForm_153 (by decide) (fun _ => ?_) (fun c_6 => False.elim (by revert c_6; decide))
  refine lv_aload_n hx hb dX5_findForm_184 rfl (lv_at hl 1 rfl) ?_
  refine lv_iload_n hx hb dX5_findForm_185 rfl (lv_at hl 2 rfl) ?_
  refine lv_sipush (v := 239) hx hb dX5_findForm_186 (by decide +kernel) ?_
  refine lv_sipush (v := 187) hx hb dX5_findForm_189 (by decide +kernel) ?_
  refine lv_sipush (v := 191) hx hb dX5_findForm_192 (by decide +kernel) ?_
  refine lv_iconst (v := 0) hx hb dX5_findForm_195 (by decide) ?_
  refine lv_iconst (v := 3) hx hb dX5_findForm_196 (by decide) ?_
  have hPc := hP.sub (ws' := [(g0, .inr (4, [.ref g1, .ref g2, .ref g3, .ref g4, .ref g5, .ref g6, .ref g7, .ref g8, .ref g9, .ref g10, .ref g11, .ref g12, .ref g13, .ref g14, .ref g15, .ref g16, .ref g17, .ref g18, .int 0, .ref g19, .int 0, .int 6, .int 0]))]) [0] rfl
  have hKc := hK.sub (tys' := []) [] rfl
  refine vp_callSi (W.runV (As := [.int 0, .int 239, .int 187, .int 191, .int 0, .int 3]) (rest := []) ⟨hx, hb, hml, hown, hts⟩ (kX5_isBegun l dC dI g0 g1 g2 g3 g4 g5 g6 g7 g8 g9 g10 g11 g12 g13 g14 g15 g16 g17 g18 g19 6 239 187 191 0 3) (cwV 6 hts gX5_findForm_X5_isBegun rfl rfl rfl (by decide +kernel) ⟨Nat.le_of_ble_eq_true rfl, Nat.le_of_ble_eq_true rfl⟩) ⟨fun a U g mk q => by obtain ⟨q0, qP, qK⟩ := q; exact ⟨q0, qP, va_K.moved (u := U) (U := U.calling g mk a) (Vm.Alike.refl U.vm) qK⟩, va_recv hKc hPc (ci := 4) (q0 := 0) rfl rfl, fun U hU hW => ⟨rfl, by rw [hU]; exact hPc, va_K.moved hW.alike hKc⟩⟩ rfl rfl hl.1 rfl (lv_room (Nat.le_of_ble_eq_true rfl)) dX5_findForm_197 ⟨Nat.le_of_ble_eq_true rfl, Nat.le_of_ble_eq_true rfl⟩) (fun r_7 hwr_7 => ?_)
  subst hwr_7
  refine lv_if_ne (tgt := 254) hx hb dX5_findForm_200 (by decide) (fun _ => ?_) (fun c_8 => False.elim (by revert c_8; decide))
  refine lv_iconst (v := 1) hx hb dX5_findForm_254 (by decide) ?_
  refine lv_goto (tgt := 259) hx hb dX5_findForm_255 (by decide) ?_
  refine lv_istore (lv' := [(4, .int 1), (3, .int 0), (0, .ref g0), (1, .int 0), (2, .int 0)]) hx hb dX5_findForm_259 hl (by decide) rfl (fun ls hl => ?_)
  refine lv_iload_n hx hb dX5_findForm_261 rfl (lv_at hl 4 rfl) ?_
  refine lv_if_ne (tgt := 270) hx hb dX5_findForm_262 (by decide) (fun c_9 => False.elim (by revert c_9; decide)) (fun _ => ?_)
  refine lv_iload hx hb dX5_findForm_265 (lv_at hl 0 rfl) ?_
  refine lv_if_ne (tgt := 275) hx hb dX5_findForm_267 (by decide) (fun _ => ?_) (fun c_10 => False.elim (by revert c_10; decide))
  refine lv_iconst (v := 0) hx hb dX5_findForm_275 (by decide) ?_
  have hP9 := hP.sub (ws' := [(g0, .inr (4, [.ref g1, .ref g2, .ref g3, .ref g4, .ref g5, .ref g6, .ref g7, .ref g8, .ref g9, .ref g10, .ref g11, .ref g12, .ref g13, .ref g14, .ref g15, .ref g16, .ref g17, .ref g18, .int 0, .ref g19, .int 0, .int 6, .int 0]))]) [0] rfl
  have hD9 := hD.sub (ws' := [(g0, .inr (4, [.ref g1, .ref g2, .ref g3, .ref g4, .ref g5, .ref g6, .ref g7, .ref g8, .ref g9, .ref g10, .ref g11, .ref g12, .ref g13, .ref g14, .ref g15, .ref g16, .ref g17, .ref g18, .int 0, .ref g19, .int 0, .int 6, .int 0]))]) [0] (by decide) rfl
  have hK9 := hK.sub (tys' := []) [] rfl
  exact W.iret (v := 0) hx hb hr (fun t ht hW => ⟨⟨0, (), rfl, rfl, by rw [ht]; exact hP9, va_K.moved hW.alike hK9, hD9⟩, hS.F ht⟩) hS.2.2 dX5_findForm_276
end
section
set_option maxHeartbeats 4000000 in
set_option maxRecDepth 100000 in
theorem kX5_findAll (l : Launch) (dC : Nat → ClassId) (dI : Nat → Nat → Nat) (g0 g1 g2 g3 g4 g5 g6 g7 g8 g9 g10 g11 g12 g13 g14 g15 g16 g17 g18 g19 : Nat) (kG1 kG2 kG3 kG4 kG5 kG6 kG7 kG8 kG9 kG10 kG11 kG12 : ClassId) (sz : Nat) (p0 p1 p2 : Int32) (hs : 0 ≤ p0.toInt ∧ p0.toInt < 4) : Met l yX5_findAll wsX5_findAll ({ frames := 2, cells := 0, slots := 0, locals := 53 } : Room) (va_Pc [.ref g0, .int p0] (fun U => U.heap.size = sz ∧ va_P (dC, dI) vwCl [(g0, .inr (4, [.ref g1, .ref g2, .ref g3, .ref g4, .ref g5, .ref g6, .ref g7, .ref g8, .ref g9, .ref g10, .ref g11, .ref g12, .ref g13, .ref g14, .ref g15, .ref g16, .ref g17, .ref g18, .int 0, .ref g19, .int 0, .int 0, .int 0])), (g1, .inl (kG1, 4, .inl (upd (fun _ => 0) (p0 : Int32).toNatClampNeg (vp_nar .boolean 1)))), (g2, .inl (kG2, 4, .inl (upd (fun _ => 0) (p0 : Int32).toNatClampNeg (vp_nar .boolean 0)))), (g3, .inl (kG3, 4, .inl (upd (fun _ => 0) (p0 : Int32).toNatClampNeg p1))), (g4, .inl (kG4, 4, .inl (fun _ => 0))), (g5, .inl (kG5, 4, .inl (upd (fun _ => 0) (p0 : Int32).toNatClampNeg p2))), (g7, .inl (kG6, 4, .inl (upd (fun _ => 0) (p0 : Int32).toNatClampNeg 0))), (g12, .inl (kG7, 4, .inl (fun _ => 0))), (g13, .inl (kG8, 4, .inl (fun _ => 0))), (g14, .inl (kG9, 4, .inl (fun _ => 0))), (g15, .inl (kG10, 4, .inl (fun _ => 0))), (g16, .inl (kG11, 4, .inl (fun _ => 0))), (g17, .inl (kG12, 4, .inl (fun _ => 0)))] U.heap ∧ va_K (dC, dI) vwCl [(kG1, .boolean), (kG2, .boolean), (kG3, .int), (kG4, .int), (kG5, .int), (kG6, .int), (kG7, .int), (kG8, .int), (kG9, .int), (kG10, .int), (kG11, .int), (kG12, .boolean)] U ∧ va_D (fun _ => True) [(g0, .inr (4, [.ref g1, .ref g2, .ref g3, .ref g4, .ref g5, .ref g6, .ref g7, .ref g8, .ref g9, .ref g10, .ref g11, .ref g12, .ref g13, .ref g14, .ref g15, .ref g16, .ref g17, .ref g18, .int 0, .ref g19, .int 0, .int 0, .int 0])), (g1, .inl (kG1, 4, .inl (upd (fun _ => 0) (p0 : Int32).toNatClampNeg (vp_nar .boolean 1)))), (g2, .inl (kG2, 4, .inl (upd (fun _ => 0) (p0 : Int32).toNatClampNeg (vp_nar .boolean 0)))), (g3, .inl (kG3, 4, .inl (upd (fun _ => 0) (p0 : Int32).toNatClampNeg p1))), (g4, .inl (kG4, 4, .inl (fun _ => 0))), (g5, .inl (kG5, 4, .inl (upd (fun _ => 0) (p0 : Int32).toNatClampNeg p2))), (g7, .inl (kG6, 4, .inl (upd (fun _ => 0) (p0 : Int32).toNatClampNeg 0))), (g12, .inl (kG7, 4, .inl (fun _ => 0))), (g13, .inl (kG8, 4, .inl (fun _ => 0))), (g14, .inl (kG9, 4, .inl (fun _ => 0))), (g15, .inl (kG10, 4, .inl (fun _ => 0))), (g16, .inl (kG11, 4, .inl (fun _ => 0))), (g17, .inl (kG12, 4, .inl (fun _ => 0)))])) (va_Qv (fun (_ : Unit) => True) (fun _ _ => True) (va_A [(g0, .inr (4, [.ref g1, .ref g2, .ref g3, .ref g4, .ref g5, .ref g6, .ref g7, .ref g8, .ref g9, .ref g10, .ref g11, .ref g12, .ref g13, .ref g14, .ref g15, .ref g16, .ref g17, .ref g18, .int 0, .ref g19, .int 0, .int 0, .int 0])), (g1, .inl (kG1, 4, .inl (upd (fun _ => 0) (p0 : Int32).toNatClampNeg (vp_nar .boolean 1)))), (g2, .inl (kG2, 4, .inl (upd (fun _ => 0) (p0 : Int32).toNatClampNeg (vp_nar .boolean 0)))), (g3, .inl (kG3, 4, .inl (upd (fun _ => 0) (p0 : Int32).toNatClampNeg p1))), (g4, .inl (kG4, 4, .inl (fun _ => 0))), (g5, .inl (kG5, 4, .inl (upd (fun _ => 0) (p0 : Int32).toNatClampNeg p2))), (g7, .inl (kG6, 4, .inl (upd (fun _ => 0) (p0 : Int32).toNatClampNeg 0))), (g12, .inl (kG7, 4, .inl (fun _ => 0))), (g13, .inl (kG8, 4, .inl (fun _ => 0))), (g14, .inl (kG9, 4, .inl (fun _ => 0))), (g15, .inl (kG10, 4, .inl (fun _ => 0))), (g16, .inl (kG11, 4, .inl (fun _ => 0))), (g17, .inl (kG12, 4, .inl (fun _ => 0)))] sz)) 0 0 (va_A [(g0, .inr (4, [.ref g1, .ref g2, .ref g3, .ref g4, .ref g5, .ref g6, .ref g7, .ref g8, .ref g9, .ref g10, .ref g11, .ref g12, .ref g13, .ref g14, .ref g15, .ref g16, .ref g17, .ref g18, .int 0, .ref g19, .int 0, .int 0, .int 0])), (g1, .inl (kG1, 4, .inl (upd (fun _ => 0) (p0 : Int32).toNatClampNeg (vp_nar .boolean 1)))), (g2, .inl (kG2, 4, .inl (upd (fun _ => 0) (p0 : Int32).toNatClampNeg (vp_nar .boolean 0)))), (g3, .inl (kG3, 4, .inl (upd (fun _ => 0) (p0 : Int32).toNatClampNeg p1))), (g4, .inl (kG4, 4, .inl (fun _ => 0))), (g5, .inl (kG5, 4, .inl (upd (fun _ => 0) (p0 : Int32).toNatClampNeg p2))), (g7, .inl (kG6, 4, .inl (upd (fun _ => 0) (p0 : Int32).toNatClampNeg 0))), (g12, .inl (kG7, 4, .inl (fun _ => 0))), (g13, .inl (kG8, 4, .inl (fun _ => 0))), (g14, .inl (kG9, 4, .inl (fun _ => 0))), (g15, .inl (kG10, 4, .inl (fun _ => 0))), (g16, .inl (kG11, 4, .inl (fun _ => 0))), (g17, .inl (kG12, 4, .inl (fun _ => 0)))] sz) := by
  refine Met.ofW (cc := cX5_findAll) (maxL := 6) (ret := none) (by decide) rfl ?_
  intro p e s m args below meth c s₁ B hml hv
  obtain ⟨rfl, hsz, hP, hK, hD0⟩ := hv
  have hx := B.exec
  have hb := B.bytes
  have hr := B.returns
  have hts := atoms_spec (ws := wsX5_findAll) B.pre
  have hown : s.vm.findClass RX5 = some m.cls := findClass_of_methodNamed B.named
  have hlocks := B.notSynchronized
  subst hsz
  have hD := hD0.self (sz := s.heap.size)
  generalize hAe : va_A [(g0, .inr (4, [.ref g1, .ref g2, .ref g3, .ref g4, .ref g5, .ref g6, .ref g7, .ref g8, .ref g9, .ref g10, .ref g11, .ref g12, .ref g13, .ref g14, .ref g15, .ref g16, .ref g17, .ref g18, .int 0, .ref g19, .int 0, .int 0, .int 0])), (g1, .inl (kG1, 4, .inl (upd (fun _ => 0) (p0 : Int32).toNatClampNeg (vp_nar .boolean 1)))), (g2, .inl (kG2, 4, .inl (upd (fun _ => 0) (p0 : Int32).toNatClampNeg (vp_nar .boolean 0)))), (g3, .inl (kG3, 4, .inl (upd (fun _ => 0) (p0 : Int32).toNatClampNeg p1))), (g4, .inl (kG4, 4, .inl (fun _ => 0))), (g5, .inl (kG5, 4, .inl (upd (fun _ => 0) (p0 : Int32).toNatClampNeg p2))), (g7, .inl (kG6, 4, .inl (upd (fun _ => 0) (p0 : Int32).toNatClampNeg 0))), (g12, .inl (kG7, 4, .inl (fun _ => 0))), (g13, .inl (kG8, 4, .inl (fun _ => 0))), (g14, .inl (kG9, 4, .inl (fun _ => 0))), (g15, .inl (kG10, 4, .inl (fun _ => 0))), (g16, .inl (kG11, 4, .inl (fun _ => 0))), (g17, .inl (kG12, 4, .inl (fun _ => 0)))] s.heap.size = A at hD ⊢
  have hA : ∀ q : Nat, s.heap.size ≤ q → A q := fun q h => by rw [← hAe]; exact Or.inr h
  have hS : va_S A s.heap s.heap [] := va_S.rf
  have hl := lv_entry ([.ref g0, .int p0]) (n := 6) (Nat.le_of_ble_eq_true rfl)
  rw [lg_entry_eq]
  generalize (lg_sl ([.ref g0, .int p0]) ++ List.replicate (6 - (lg_sl ([.ref g0, .int p0])).length) Slot.unset).toArray = ls at hl ⊢
  have hl : lv_has ls 6 [(0, .ref g0), (1, .int p0)] := hl
  refine lv_aload_n hx hb dX5_findAll_0 rfl (lv_at hl 0 rfl) ?_
  refine va_get (D := (dC, dI)) (ci := 4) (v := .ref g7) (C := RX5) (T := TX5) (N := 23) hx hb hts (by decide +kernel) hown hK hP 0 rfl rfl 6 (by decide) (hts (.fieldLink RX5 29 "SignFormsModel" "many" "[I") (by decide +kernel)) (fun _ h9 => h9) rfl dX5_findAll_1 ?_
  refine lv_iload_n hx hb dX5_findAll_4 rfl (lv_at hl 1 rfl) ?_
  refine va_iald hx hb hK hP 6 5 rfl rfl (vp_in_iff.mpr (by omega)) dX5_findAll_5 ?_
  refine W.eq (g2 := F0 m 6 ls [.int 0]) (by rw [pk_us]) ?_
  refine lv_istore_n (lv' := [(2, .int 0), (0, .ref g0), (1, .int p0)]) hx hb dX5_findAll_6 rfl hl (by decide) rfl (fun ls hl => ?_)
  refine lv_iconst (v := 0) hx hb dX5_findAll_7 (by decide) ?_
  refine lv_istore_n (lv' := [(3, .int 0), (2, .int 0), (0, .ref g0), (1, .int p0)]) hx hb dX5_findAll_8 rfl hl (by decide) rfl (fun ls hl => ?_)
  refine lv_iload_n hx hb dX5_findAll_9 rfl (lv_at hl 0 rfl) ?_
  refine lv_iload_n hx hb dX5_findAll_10 rfl (lv_at hl 1 rfl) ?_
  refine lv_icmp_ge (tgt := 38) hx hb dX5_findAll_11 (by decide) (fun _ => ?_) (fun c_1 => False.elim (by revert c_1; decide))
  refine lv_aload_n hx hb dX5_findAll_38 rfl (lv_at hl 2 rfl) ?_
  refine va_get (D := (dC, dI)) (ci := 4) (v := .ref g12) (C := RX5) (T := TX5) (N := 23) hx hb hts (by decide +kernel) hown hK hP 0 rfl rfl 11 (by decide) (hts (.fieldLink RX5 44 "SignFormsModel" "signs" "[I") (by decide +kernel)) (fun _ h9 => h9) rfl dX5_findAll_39 ?_
  refine lv_iload_n hx hb dX5_findAll_42 rfl (lv_at hl 3 rfl) ?_
  refine lv_iconst (v := 0) hx hb dX5_findAll_43 (by decide) ?_
  refine va_iast hx hb hK hP hD hS 7 6 rfl rfl (vp_in_iff.mpr (by omega)) dX5_findAll_44 (fun H locs hP hD hS => ?_)
  have hP : va_P (dC, dI) vwCl [(g0, .inr (4, [.ref g1, .ref g2, .ref g3, .ref g4, .ref g5, .ref g6, .ref g7, .ref g8, .ref g9, .ref g10, .ref g11, .ref g12, .ref g13, .ref g14, .ref g15, .ref g16, .ref g17, .ref g18, .int 0, .ref g19, .int 0, .int 0, .int 0])), (g1, .inl (kG1, 4, .inl (upd (fun _ => 0) (p0 : Int32).toNatClampNeg (vp_nar .boolean 1)))), (g2, .inl (kG2, 4, .inl (upd (fun _ => 0) (p0 : Int32).toNatClampNeg (vp_nar .boolean 0)))), (g3, .inl (kG3, 4, .inl (upd (fun _ => 0) (p0 : Int32).toNatClampNeg p1))), (g4, .inl (kG4, 4, .inl (fun _ => 0))), (g5, .inl (kG5, 4, .inl (upd (fun _ => 0) (p0 : Int32).toNatClampNeg p2))), (g7, .inl (kG6, 4, .inl (upd (fun _ => 0) (p0 : Int32).toNatClampNeg 0))), (g12, .inl (kG7, 4, .inl (upd (fun _ => 0) (p0 : Int32).toNatClampNeg 0))), (g13, .inl (kG8, 4, .inl (fun _ => 0))), (g14, .inl (kG9, 4, .inl (fun _ => 0))), (g15, .inl (kG10, 4, .inl (fun _ => 0))), (g16, .inl (kG11, 4, .inl (fun _ => 0))), (g17, .inl (kG12, 4, .inl (fun _ => 0)))] H := hP
  have hD : va_D A [(g0, .inr (4, [.ref g1, .ref g2, .ref g3, .ref g4, .ref g5, .ref g6, .ref g7, .ref g8, .ref g9, .ref g10, .ref g11, .ref g12, .ref g13, .ref g14, .ref g15, .ref g16, .ref g17, .ref g18, .int 0, .ref g19, .int 0, .int 0, .int 0])), (g1, .inl (kG1, 4, .inl (upd (fun _ => 0) (p0 : Int32).toNatClampNeg (vp_nar .boolean 1)))), (g2, .inl (kG2, 4, .inl (upd (fun _ => 0) (p0 : Int32).toNatClampNeg (vp_nar .boolean 0)))), (g3, .inl (kG3, 4, .inl (upd (fun _ => 0) (p0 : Int32).toNatClampNeg p1))), (g4, .inl (kG4, 4, .inl (fun _ => 0))), (g5, .inl (kG5, 4, .inl (upd (fun _ => 0) (p0 : Int32).toNatClampNeg p2))), (g7, .inl (kG6, 4, .inl (upd (fun _ => 0) (p0 : Int32).toNatClampNeg 0))), (g12, .inl (kG7, 4, .inl (upd (fun _ => 0) (p0 : Int32).toNatClampNeg 0))), (g13, .inl (kG8, 4, .inl (fun _ => 0))), (g14, .inl (kG9, 4, .inl (fun _ => 0))), (g15, .inl (kG10, 4, .inl (fun _ => 0))), (g16, .inl (kG11, 4, .inl (fun _ => 0))), (g17, .inl (kG12, 4, .inl (fun _ => 0)))] := hD
  refine lv_aload_n hx hb dX5_findAll_45 rfl (lv_at hl 2 rfl) ?_
  refine va_get (D := (dC, dI)) (ci := 4) (v := .ref g13) (C := RX5) (T := TX5) (N := 23) hx hb hts (by decide +kernel) hown hK hP 0 rfl rfl 12 (by decide) (hts (.fieldLink RX5 47 "SignFormsModel" "subparts" "[I") (by decide +kernel)) (fun _ h9 => h9) rfl dX5_findAll_46 ?_
  refine lv_iload_n hx hb dX5_findAll_49 rfl (lv_at hl 3 rfl) ?_
  refine lv_iconst (v := 0) hx hb dX5_findAll_50 (by decide) ?_
  refine va_iast hx hb hK hP hD hS 8 7 rfl rfl (vp_in_iff.mpr (by omega)) dX5_findAll_51 (fun H locs hP hD hS => ?_)
  have hP : va_P (dC, dI) vwCl [(g0, .inr (4, [.ref g1, .ref g2, .ref g3, .ref g4, .ref g5, .ref g6, .ref g7, .ref g8, .ref g9, .ref g10, .ref g11, .ref g12, .ref g13, .ref g14, .ref g15, .ref g16, .ref g17, .ref g18, .int 0, .ref g19, .int 0, .int 0, .int 0])), (g1, .inl (kG1, 4, .inl (upd (fun _ => 0) (p0 : Int32).toNatClampNeg (vp_nar .boolean 1)))), (g2, .inl (kG2, 4, .inl (upd (fun _ => 0) (p0 : Int32).toNatClampNeg (vp_nar .boolean 0)))), (g3, .inl (kG3, 4, .inl (upd (fun _ => 0) (p0 : Int32).toNatClampNeg p1))), (g4, .inl (kG4, 4, .inl (fun _ => 0))), (g5, .inl (kG5, 4, .inl (upd (fun _ => 0) (p0 : Int32).toNatClampNeg p2))), (g7, .inl (kG6, 4, .inl (upd (fun _ => 0) (p0 : Int32).toNatClampNeg 0))), (g12, .inl (kG7, 4, .inl (upd (fun _ => 0) (p0 : Int32).toNatClampNeg 0))), (g13, .inl (kG8, 4, .inl (upd (fun _ => 0) (p0 : Int32).toNatClampNeg 0))), (g14, .inl (kG9, 4, .inl (fun _ => 0))), (g15, .inl (kG10, 4, .inl (fun _ => 0))), (g16, .inl (kG11, 4, .inl (fun _ => 0))), (g17, .inl (kG12, 4, .inl (fun _ => 0)))] H := hP
  have hD : va_D A [(g0, .inr (4, [.ref g1, .ref g2, .ref g3, .ref g4, .ref g5, .ref g6, .ref g7, .ref g8, .ref g9, .ref g10, .ref g11, .ref g12, .ref g13, .ref g14, .ref g15, .ref g16, .ref g17, .ref g18, .int 0, .ref g19, .int 0, .int 0, .int 0])), (g1, .inl (kG1, 4, .inl (upd (fun _ => 0) (p0 : Int32).toNatClampNeg (vp_nar .boolean 1)))), (g2, .inl (kG2, 4, .inl (upd (fun _ => 0) (p0 : Int32).toNatClampNeg (vp_nar .boolean 0)))), (g3, .inl (kG3, 4, .inl (upd (fun _ => 0) (p0 : Int32).toNatClampNeg p1))), (g4, .inl (kG4, 4, .inl (fun _ => 0))), (g5, .inl (kG5, 4, .inl (upd (fun _ => 0) (p0 : Int32).toNatClampNeg p2))), (g7, .inl (kG6, 4, .inl (upd (fun _ => 0) (p0 : Int32).toNatClampNeg 0))), (g12, .inl (kG7, 4, .inl (upd (fun _ => 0) (p0 : Int32).toNatClampNeg 0))), (g13, .inl (kG8, 4, .inl (upd (fun _ => 0) (p0 : Int32).toNatClampNeg 0))), (g14, .inl (kG9, 4, .inl (fun _ => 0))), (g15, .inl (kG10, 4, .inl (fun _ => 0))), (g16, .inl (kG11, 4, .inl (fun _ => 0))), (g17, .inl (kG12, 4, .inl (fun _ => 0)))] := hD
  refine lv_aload_n hx hb dX5_findAll_52 rfl (lv_at hl 2 rfl) ?_
  refine va_get (D := (dC, dI)) (ci := 4) (v := .ref g15) (C := RX5) (T := TX5) (N := 23) hx hb hts (by decide +kernel) hown hK hP 0 rfl rfl 14 (by decide) (hts (.fieldLink RX5 53 "SignFormsModel" "broken" "[I") (by decide +kernel)) (fun _ h9 => h9) rfl dX5_findAll_53 ?_
  refine lv_iload_n hx hb dX5_findAll_56 rfl (lv_at hl 3 rfl) ?_
  refine lv_iconst (v := (-1)) hx hb dX5_findAll_57 (by decide) ?_
  refine va_iast hx hb hK hP hD hS 10 9 rfl rfl (vp_in_iff.mpr (by omega)) dX5_findAll_58 (fun H locs hP hD hS => ?_)
  have hP : va_P (dC, dI) vwCl [(g0, .inr (4, [.ref g1, .ref g2, .ref g3, .ref g4, .ref g5, .ref g6, .ref g7, .ref g8, .ref g9, .ref g10, .ref g11, .ref g12, .ref g13, .ref g14, .ref g15, .ref g16, .ref g17, .ref g18, .int 0, .ref g19, .int 0, .int 0, .int 0])), (g1, .inl (kG1, 4, .inl (upd (fun _ => 0) (p0 : Int32).toNatClampNeg (vp_nar .boolean 1)))), (g2, .inl (kG2, 4, .inl (upd (fun _ => 0) (p0 : Int32).toNatClampNeg (vp_nar .boolean 0)))), (g3, .inl (kG3, 4, .inl (upd (fun _ => 0) (p0 : Int32).toNatClampNeg p1))), (g4, .inl (kG4, 4, .inl (fun _ => 0))), (g5, .inl (kG5, 4, .inl (upd (fun _ => 0) (p0 : Int32).toNatClampNeg p2))), (g7, .inl (kG6, 4, .inl (upd (fun _ => 0) (p0 : Int32).toNatClampNeg 0))), (g12, .inl (kG7, 4, .inl (upd (fun _ => 0) (p0 : Int32).toNatClampNeg 0))), (g13, .inl (kG8, 4, .inl (upd (fun _ => 0) (p0 : Int32).toNatClampNeg 0))), (g14, .inl (kG9, 4, .inl (fun _ => 0))), (g15, .inl (kG10, 4, .inl (upd (fun _ => 0) (p0 : Int32).toNatClampNeg (-1)))), (g16, .inl (kG11, 4, .inl (fun _ => 0))), (g17, .inl (kG12, 4, .inl (fun _ => 0)))] H := hP
  have hD : va_D A [(g0, .inr (4, [.ref g1, .ref g2, .ref g3, .ref g4, .ref g5, .ref g6, .ref g7, .ref g8, .ref g9, .ref g10, .ref g11, .ref g12, .ref g13, .ref g14, .ref g15, .ref g16, .ref g17, .ref g18, .int 0, .ref g19, .int 0, .int 0, .int 0])), (g1, .inl (kG1, 4, .inl (upd (fun _ => 0) (p0 : Int32).toNatClampNeg (vp_nar .boolean 1)))), (g2, .inl (kG2, 4, .inl (upd (fun _ => 0) (p0 : Int32).toNatClampNeg (vp_nar .boolean 0)))), (g3, .inl (kG3, 4, .inl (upd (fun _ => 0) (p0 : Int32).toNatClampNeg p1))), (g4, .inl (kG4, 4, .inl (fun _ => 0))), (g5, .inl (kG5, 4, .inl (upd (fun _ => 0) (p0 : Int32).toNatClampNeg p2))), (g7, .inl (kG6, 4, .inl (upd (fun _ => 0) (p0 : Int32).toNatClampNeg 0))), (g12, .inl (kG7, 4, .inl (upd (fun _ => 0) (p0 : Int32).toNatClampNeg 0))), (g13, .inl (kG8, 4, .inl (upd (fun _ => 0) (p0 : Int32).toNatClampNeg 0))), (g14, .inl (kG9, 4, .inl (fun _ => 0))), (g15, .inl (kG10, 4, .inl (upd (fun _ => 0) (p0 : Int32).toNatClampNeg (-1)))), (g16, .inl (kG11, 4, .inl (fun _ => 0))), (g17, .inl (kG12, 4, .inl (fun _ => 0)))] := hD
  refine lv_aload_n hx hb dX5_findAll_59 rfl (lv_at hl 2 rfl) ?_
  refine va_get (D := (dC, dI)) (ci := 4) (v := .ref g16) (C := RX5) (T := TX5) (N := 23) hx hb hts (by decide +kernel) hown hK hP 0 rfl rfl 15 (by decide) (hts (.fieldLink RX5 56 "SignFormsModel" "firstSubpart" "[I") (by decide +kernel)) (fun _ h9 => h9) rfl dX5_findAll_60 ?_
  refine lv_iload_n hx hb dX5_findAll_63 rfl (lv_at hl 3 rfl) ?_
  refine lv_iconst (v := (-1)) hx hb dX5_findAll_64 (by decide) ?_
  refine va_iast hx hb hK hP hD hS 11 10 rfl rfl (vp_in_iff.mpr (by omega)) dX5_findAll_65 (fun H locs hP hD hS => ?_)
  have hP : va_P (dC, dI) vwCl [(g0, .inr (4, [.ref g1, .ref g2, .ref g3, .ref g4, .ref g5, .ref g6, .ref g7, .ref g8, .ref g9, .ref g10, .ref g11, .ref g12, .ref g13, .ref g14, .ref g15, .ref g16, .ref g17, .ref g18, .int 0, .ref g19, .int 0, .int 0, .int 0])), (g1, .inl (kG1, 4, .inl (upd (fun _ => 0) (p0 : Int32).toNatClampNeg (vp_nar .boolean 1)))), (g2, .inl (kG2, 4, .inl (upd (fun _ => 0) (p0 : Int32).toNatClampNeg (vp_nar .boolean 0)))), (g3, .inl (kG3, 4, .inl (upd (fun _ => 0) (p0 : Int32).toNatClampNeg p1))), (g4, .inl (kG4, 4, .inl (fun _ => 0))), (g5, .inl (kG5, 4, .inl (upd (fun _ => 0) (p0 : Int32).toNatClampNeg p2))), (g7, .inl (kG6, 4, .inl (upd (fun _ => 0) (p0 : Int32).toNatClampNeg 0))), (g12, .inl (kG7, 4, .inl (upd (fun _ => 0) (p0 : Int32).toNatClampNeg 0))), (g13, .inl (kG8, 4, .inl (upd (fun _ => 0) (p0 : Int32).toNatClampNeg 0))), (g14, .inl (kG9, 4, .inl (fun _ => 0))), (g15, .inl (kG10, 4, .inl (upd (fun _ => 0) (p0 : Int32).toNatClampNeg (-1)))), (g16, .inl (kG11, 4, .inl (upd (fun _ => 0) (p0 : Int32).toNatClampNeg (-1)))), (g17, .inl (kG12, 4, .inl (fun _ => 0)))] H := hP
  have hD : va_D A [(g0, .inr (4, [.ref g1, .ref g2, .ref g3, .ref g4, .ref g5, .ref g6, .ref g7, .ref g8, .ref g9, .ref g10, .ref g11, .ref g12, .ref g13, .ref g14, .ref g15, .ref g16, .ref g17, .ref g18, .int 0, .ref g19, .int 0, .int 0, .int 0])), (g1, .inl (kG1, 4, .inl (upd (fun _ => 0) (p0 : Int32).toNatClampNeg (vp_nar .boolean 1)))), (g2, .inl (kG2, 4, .inl (upd (fun _ => 0) (p0 : Int32).toNatClampNeg (vp_nar .boolean 0)))), (g3, .inl (kG3, 4, .inl (upd (fun _ => 0) (p0 : Int32).toNatClampNeg p1))), (g4, .inl (kG4, 4, .inl (fun _ => 0))), (g5, .inl (kG5, 4, .inl (upd (fun _ => 0) (p0 : Int32).toNatClampNeg p2))), (g7, .inl (kG6, 4, .inl (upd (fun _ => 0) (p0 : Int32).toNatClampNeg 0))), (g12, .inl (kG7, 4, .inl (upd (fun _ => 0) (p0 : Int32).toNatClampNeg 0))), (g13, .inl (kG8, 4, .inl (upd (fun _ => 0) (p0 : Int32).toNatClampNeg 0))), (g14, .inl (kG9, 4, .inl (fun _ => 0))), (g15, .inl (kG10, 4, .inl (upd (fun _ => 0) (p0 : Int32).toNatClampNeg (-1)))), (g16, .inl (kG11, 4, .inl (upd (fun _ => 0) (p0 : Int32).toNatClampNeg (-1)))), (g17, .inl (kG12, 4, .inl (fun _ => 0)))] := hD
  refine lv_aload_n hx hb dX5_findAll_66 rfl (lv_at hl 2 rfl) ?_
  refine va_get (D := (dC, dI)) (ci := 4) (v := .ref g17) (C := RX5) (T := TX5) (N := 23) hx hb hts (by decide +kernel) hown hK hP 0 rfl rfl 16 (by decide) (hts (.fieldLink RX5 59 "SignFormsModel" "isMarked" "[Z") (by decide +kernel)) (fun _ h9 => h9) rfl dX5_findAll_67 ?_
  refine lv_iload_n hx hb dX5_findAll_70 rfl (lv_at hl 3 rfl) ?_
  refine lv_iconst (v := 0) hx hb dX5_findAll_71 (by decide) ?_
  refine va_zast hx hb hK hP hD hS 12 11 rfl rfl (vp_in_iff.mpr (by omega)) dX5_findAll_72 (fun H locs hP hD hS => ?_)
  have hP : va_P (dC, dI) vwCl [(g0, .inr (4, [.ref g1, .ref g2, .ref g3, .ref g4, .ref g5, .ref g6, .ref g7, .ref g8, .ref g9, .ref g10, .ref g11, .ref g12, .ref g13, .ref g14, .ref g15, .ref g16, .ref g17, .ref g18, .int 0, .ref g19, .int 0, .int 0, .int 0])), (g1, .inl (kG1, 4, .inl (upd (fun _ => 0) (p0 : Int32).toNatClampNeg (vp_nar .boolean 1)))), (g2, .inl (kG2, 4, .inl (upd (fun _ => 0) (p0 : Int32).toNatClampNeg (vp_nar .boolean 0)))), (g3, .inl (kG3, 4, .inl (upd (fun _ => 0) (p0 : Int32).toNatClampNeg p1))), (g4, .inl (kG4, 4, .inl (fun _ => 0))), (g5, .inl (kG5, 4, .inl (upd (fun _ => 0) (p0 : Int32).toNatClampNeg p2))), (g7, .inl (kG6, 4, .inl (upd (fun _ => 0) (p0 : Int32).toNatClampNeg 0))), (g12, .inl (kG7, 4, .inl (upd (fun _ => 0) (p0 : Int32).toNatClampNeg 0))), (g13, .inl (kG8, 4, .inl (upd (fun _ => 0) (p0 : Int32).toNatClampNeg 0))), (g14, .inl (kG9, 4, .inl (fun _ => 0))), (g15, .inl (kG10, 4, .inl (upd (fun _ => 0) (p0 : Int32).toNatClampNeg (-1)))), (g16, .inl (kG11, 4, .inl (upd (fun _ => 0) (p0 : Int32).toNatClampNeg (-1)))), (g17, .inl (kG12, 4, .inl (upd (fun _ => 0) (p0 : Int32).toNatClampNeg (vp_nar .boolean 0))))] H := hP
  have hD : va_D A [(g0, .inr (4, [.ref g1, .ref g2, .ref g3, .ref g4, .ref g5, .ref g6, .ref g7, .ref g8, .ref g9, .ref g10, .ref g11, .ref g12, .ref g13, .ref g14, .ref g15, .ref g16, .ref g17, .ref g18, .int 0, .ref g19, .int 0, .int 0, .int 0])), (g1, .inl (kG1, 4, .inl (upd (fun _ => 0) (p0 : Int32).toNatClampNeg (vp_nar .boolean 1)))), (g2, .inl (kG2, 4, .inl (upd (fun _ => 0) (p0 : Int32).toNatClampNeg (vp_nar .boolean 0)))), (g3, .inl (kG3, 4, .inl (upd (fun _ => 0) (p0 : Int32).toNatClampNeg p1))), (g4, .inl (kG4, 4, .inl (fun _ => 0))), (g5, .inl (kG5, 4, .inl (upd (fun _ => 0) (p0 : Int32).toNatClampNeg p2))), (g7, .inl (kG6, 4, .inl (upd (fun _ => 0) (p0 : Int32).toNatClampNeg 0))), (g12, .inl (kG7, 4, .inl (upd (fun _ => 0) (p0 : Int32).toNatClampNeg 0))), (g13, .inl (kG8, 4, .inl (upd (fun _ => 0) (p0 : Int32).toNatClampNeg 0))), (g14, .inl (kG9, 4, .inl (fun _ => 0))), (g15, .inl (kG10, 4, .inl (upd (fun _ => 0) (p0 : Int32).toNatClampNeg (-1)))), (g16, .inl (kG11, 4, .inl (upd (fun _ => 0) (p0 : Int32).toNatClampNeg (-1)))), (g17, .inl (kG12, 4, .inl (upd (fun _ => 0) (p0 : Int32).toNatClampNeg (vp_nar .boolean 0))))] := hD
  refine lv_aload_n hx hb dX5_findAll_73 rfl (lv_at hl 2 rfl) ?_
  refine va_get (D := (dC, dI)) (ci := 4) (v := .ref g14) (C := RX5) (T := TX5) (N := 23) hx hb hts (by decide +kernel) hown hK hP 0 rfl rfl 13 (by decide) (hts (.fieldLink RX5 50 "SignFormsModel" "open" "[I") (by decide +kernel)) (fun _ h9 => h9) rfl dX5_findAll_74 ?_
  refine lv_iload_n hx hb dX5_findAll_77 rfl (lv_at hl 3 rfl) ?_
  refine lv_iload_n hx hb dX5_findAll_78 rfl (lv_at hl 1 rfl) ?_
  refine va_iast hx hb hK hP hD hS 9 8 rfl rfl (vp_in_iff.mpr (by omega)) dX5_findAll_79 (fun H locs hP hD hS => ?_)
  have hP : va_P (dC, dI) vwCl [(g0, .inr (4, [.ref g1, .ref g2, .ref g3, .ref g4, .ref g5, .ref g6, .ref g7, .ref g8, .ref g9, .ref g10, .ref g11, .ref g12, .ref g13, .ref g14, .ref g15, .ref g16, .ref g17, .ref g18, .int 0, .ref g19, .int 0, .int 0, .int 0])), (g1, .inl (kG1, 4, .inl (upd (fun _ => 0) (p0 : Int32).toNatClampNeg (vp_nar .boolean 1)))), (g2, .inl (kG2, 4, .inl (upd (fun _ => 0) (p0 : Int32).toNatClampNeg (vp_nar .boolean 0)))), (g3, .inl (kG3, 4, .inl (upd (fun _ => 0) (p0 : Int32).toNatClampNeg p1))), (g4, .inl (kG4, 4, .inl (fun _ => 0))), (g5, .inl (kG5, 4, .inl (upd (fun _ => 0) (p0 : Int32).toNatClampNeg p2))), (g7, .inl (kG6, 4, .inl (upd (fun _ => 0) (p0 : Int32).toNatClampNeg 0))), (g12, .inl (kG7, 4, .inl (upd (fun _ => 0) (p0 : Int32).toNatClampNeg 0))), (g13, .inl (kG8, 4, .inl (upd (fun _ => 0) (p0 : Int32).toNatClampNeg 0))), (g14, .inl (kG9, 4, .inl (upd (fun _ => 0) (p0 : Int32).toNatClampNeg 0))), (g15, .inl (kG10, 4, .inl (upd (fun _ => 0) (p0 : Int32).toNatClampNeg (-1)))), (g16, .inl (kG11, 4, .inl (upd (fun _ => 0) (p0 : Int32).toNatClampNeg (-1)))), (g17, .inl (kG12, 4, .inl (upd (fun _ => 0) (p0 : Int32).toNatClampNeg (vp_nar .boolean 0))))] H := hP
  have hD : va_D A [(g0, .inr (4, [.ref g1, .ref g2, .ref g3, .ref g4, .ref g5, .ref g6, .ref g7, .ref g8, .ref g9, .ref g10, .ref g11, .ref g12, .ref g13, .ref g14, .ref g15, .ref g16, .ref g17, .ref g18, .int 0, .ref g19, .int 0, .int 0, .int 0])), (g1, .inl (kG1, 4, .inl (upd (fun _ => 0) (p0 : Int32).toNatClampNeg (vp_nar .boolean 1)))), (g2, .inl (kG2, 4, .inl (upd (fun _ => 0) (p0 : Int32).toNatClampNeg (vp_nar .boolean 0)))), (g3, .inl (kG3, 4, .inl (upd (fun _ => 0) (p0 : Int32).toNatClampNeg p1))), (g4, .inl (kG4, 4, .inl (fun _ => 0))), (g5, .inl (kG5, 4, .inl (upd (fun _ => 0) (p0 : Int32).toNatClampNeg p2))), (g7, .inl (kG6, 4, .inl (upd (fun _ => 0) (p0 : Int32).toNatClampNeg 0))), (g12, .inl (kG7, 4, .inl (upd (fun _ => 0) (p0 : Int32).toNatClampNeg 0))), (g13, .inl (kG8, 4, .inl (upd (fun _ => 0) (p0 : Int32).toNatClampNeg 0))), (g14, .inl (kG9, 4, .inl (upd (fun _ => 0) (p0 : Int32).toNatClampNeg 0))), (g15, .inl (kG10, 4, .inl (upd (fun _ => 0) (p0 : Int32).toNatClampNeg (-1)))), (g16, .inl (kG11, 4, .inl (upd (fun _ => 0) (p0 : Int32).toNatClampNeg (-1)))), (g17, .inl (kG12, 4, .inl (upd (fun _ => 0) (p0 : Int32).toNatClampNeg (vp_nar .boolean 0))))] := hD
  refine lv_aload_n hx hb dX5_findAll_80 rfl (lv_at hl 2 rfl) ?_
  refine va_get (D := (dC, dI)) (ci := 4) (v := .ref g4) (C := RX5) (T := TX5) (N := 23) hx hb hts (by decide +kernel) hown hK hP 0 rfl rfl 3 (by decide) (hts (.fieldLink RX5 20 "SignFormsModel" "form" "[I") (by decide +kernel)) (fun _ h9 => h9) rfl dX5_findAll_81 ?_
  refine lv_iload_n hx hb dX5_findAll_84 rfl (lv_at hl 3 rfl) ?_
  refine lv_aload_n hx hb dX5_findAll_85 rfl (lv_at hl 2 rfl) ?_
  refine va_get (D := (dC, dI)) (ci := 4) (v := .ref g3) (C := RX5) (T := TX5) (N := 23) hx hb hts (by decide +kernel) hown hK hP 0 rfl rfl 2 (by decide) (hts (.fieldLink RX5 16 "SignFormsModel" "told" "[I") (by decide +kernel)) (fun _ h9 => h9) rfl dX5_findAll_86 ?_
  refine lv_iload_n hx hb dX5_findAll_89 rfl (lv_at hl 3 rfl) ?_
  refine va_iald hx hb hK hP 3 2 rfl rfl (vp_in_iff.mpr (by omega)) dX5_findAll_90 ?_
  refine W.eq (g2 := F0 m 91 ls [.int p1, .int p0, .ref g4]) (by rw [pk_us]) ?_
  refine va_iast hx hb hK hP hD hS 4 3 rfl rfl (vp_in_iff.mpr (by omega)) dX5_findAll_91 (fun H locs hP hD hS => ?_)
  have hP : va_P (dC, dI) vwCl [(g0, .inr (4, [.ref g1, .ref g2, .ref g3, .ref g4, .ref g5, .ref g6, .ref g7, .ref g8, .ref g9, .ref g10, .ref g11, .ref g12, .ref g13, .ref g14, .ref g15, .ref g16, .ref g17, .ref g18, .int 0, .ref g19, .int 0, .int 0, .int 0])), (g1, .inl (kG1, 4, .inl (upd (fun _ => 0) (p0 : Int32).toNatClampNeg (vp_nar .boolean 1)))), (g2, .inl (kG2, 4, .inl (upd (fun _ => 0) (p0 : Int32).toNatClampNeg (vp_nar .boolean 0)))), (g3, .inl (kG3, 4, .inl (upd (fun _ => 0) (p0 : Int32).toNatClampNeg p1))), (g4, .inl (kG4, 4, .inl (upd (fun _ => 0) (p0 : Int32).toNatClampNeg p1))), (g5, .inl (kG5, 4, .inl (upd (fun _ => 0) (p0 : Int32).toNatClampNeg p2))), (g7, .inl (kG6, 4, .inl (upd (fun _ => 0) (p0 : Int32).toNatClampNeg 0))), (g12, .inl (kG7, 4, .inl (upd (fun _ => 0) (p0 : Int32).toNatClampNeg 0))), (g13, .inl (kG8, 4, .inl (upd (fun _ => 0) (p0 : Int32).toNatClampNeg 0))), (g14, .inl (kG9, 4, .inl (upd (fun _ => 0) (p0 : Int32).toNatClampNeg 0))), (g15, .inl (kG10, 4, .inl (upd (fun _ => 0) (p0 : Int32).toNatClampNeg (-1)))), (g16, .inl (kG11, 4, .inl (upd (fun _ => 0) (p0 : Int32).toNatClampNeg (-1)))), (g17, .inl (kG12, 4, .inl (upd (fun _ => 0) (p0 : Int32).toNatClampNeg (vp_nar .boolean 0))))] H := hP
  have hD : va_D A [(g0, .inr (4, [.ref g1, .ref g2, .ref g3, .ref g4, .ref g5, .ref g6, .ref g7, .ref g8, .ref g9, .ref g10, .ref g11, .ref g12, .ref g13, .ref g14, .ref g15, .ref g16, .ref g17, .ref g18, .int 0, .ref g19, .int 0, .int 0, .int 0])), (g1, .inl (kG1, 4, .inl (upd (fun _ => 0) (p0 : Int32).toNatClampNeg (vp_nar .boolean 1)))), (g2, .inl (kG2, 4, .inl (upd (fun _ => 0) (p0 : Int32).toNatClampNeg (vp_nar .boolean 0)))), (g3, .inl (kG3, 4, .inl (upd (fun _ => 0) (p0 : Int32).toNatClampNeg p1))), (g4, .inl (kG4, 4, .inl (upd (fun _ => 0) (p0 : Int32).toNatClampNeg p1))), (g5, .inl (kG5, 4, .inl (upd (fun _ => 0) (p0 : Int32).toNatClampNeg p2))), (g7, .inl (kG6, 4, .inl (upd (fun _ => 0) (p0 : Int32).toNatClampNeg 0))), (g12, .inl (kG7, 4, .inl (upd (fun _ => 0) (p0 : Int32).toNatClampNeg 0))), (g13, .inl (kG8, 4, .inl (upd (fun _ => 0) (p0 : Int32).toNatClampNeg 0))), (g14, .inl (kG9, 4, .inl (upd (fun _ => 0) (p0 : Int32).toNatClampNeg 0))), (g15, .inl (kG10, 4, .inl (upd (fun _ => 0) (p0 : Int32).toNatClampNeg (-1)))), (g16, .inl (kG11, 4, .inl (upd (fun _ => 0) (p0 : Int32).toNatClampNeg (-1)))), (g17, .inl (kG12, 4, .inl (upd (fun _ => 0) (p0 : Int32).toNatClampNeg (vp_nar .boolean 0))))] := hD
  refine lv_iconst (v := 0) hx hb dX5_findAll_92 (by decide) ?_
  refine lv_istore_n (lv' := [(3, .int 0), (2, .int 0), (0, .ref g0), (1, .int p0)]) hx hb dX5_findAll_93 rfl hl (by decide) rfl (fun ls hl => ?_)
  refine lv_aload_n hx hb dX5_findAll_94 rfl (lv_at hl 2 rfl) ?_
  refine va_get (D := (dC, dI)) (ci := 4) (v := .ref g3) (C := RX5) (T := TX5) (N := 23) hx hb hts (by decide +kernel) hown hK hP 0 rfl rfl 2 (by decide) (hts (.fieldLink RX5 16 "SignFormsModel" "told" "[I") (by decide +kernel)) (fun _ h9 => h9) rfl dX5_findAll_95 ?_
  refine lv_iload_n hx hb dX5_findAll_98 rfl (lv_at hl 3 rfl) ?_
  refine va_iald hx hb hK hP 3 2 rfl rfl (vp_in_iff.mpr (by omega)) dX5_findAll_99 ?_
  refine W.eq (g2 := F0 m 100 ls [.int p1]) (by rw [pk_us]) ?_
  refine lv_bipush (v := 6) hx hb dX5_findAll_100 (by decide +kernel) ?_
  refine lv_icmp_ne (tgt := 142) hx hb dX5_findAll_102 (by decide) (fun c_2 => ?_) (fun c_2 => ?_)
  · have zc_2 : p1.toInt ≠ (6 : Int) := zz_neq rfl (by decide) c_2
    refine lv_aload_n hx hb dX5_findAll_142 rfl (lv_at hl 2 rfl) ?_
    refine va_get (D := (dC, dI)) (ci := 4) (v := .ref g4) (C := RX5) (T := TX5) (N := 23) hx hb hts (by decide +kernel) hown hK hP 0 rfl rfl 3 (by decide) (hts (.fieldLink RX5 20 "SignFormsModel" "form" "[I") (by decide +kernel)) (fun _ h9 => h9) rfl dX5_findAll_143 ?_
    refine lv_iload_n hx hb dX5_findAll_146 rfl (lv_at hl 3 rfl) ?_
    refine va_iald hx hb hK hP 4 3 rfl rfl (vp_in_iff.mpr (by omega)) dX5_findAll_147 ?_
    refine W.eq (g2 := F0 m 148 ls [.int p1]) (by rw [pk_us]) ?_
    refine lv_bipush (v := 6) hx hb dX5_findAll_148 (by decide +kernel) ?_
    refine lv_icmp_ne (tgt := 154) hx hb dX5_findAll_150 (by decide) (fun c_3 => ?_) (fun c_3 => ?_)
    · have zc_3 : p1.toInt ≠ (6 : Int) := zz_neq rfl (by decide) c_3
      refine lv_iconst (v := 1) hx hb dX5_findAll_154 (by decide) ?_
      refine lv_istore (lv' := [(4, .int 1), (3, .int 0), (2, .int 0), (0, .ref g0), (1, .int p0)]) hx hb dX5_findAll_155 hl (by decide) rfl (fun ls hl => ?_)
      refine lv_iload hx hb dX5_findAll_157 (lv_at hl 0 rfl) ?_
      refine lv_if_eq (tgt := 327) hx hb dX5_findAll_159 (by decide) (fun c_4 => False.elim (by revert c_4; decide)) (fun _ => ?_)
      refine lv_iload_n hx hb dX5_findAll_162 rfl (lv_at hl 1 rfl) ?_
      refine lv_iload_n hx hb dX5_findAll_163 rfl (lv_at hl 2 rfl) ?_
      refine lv_icmp_ge (tgt := 327) hx hb dX5_findAll_164 (by decide) (fun _ => ?_) (fun c_5 => False.elim (by revert c_5; decide))
      refine lv_aload_n hx hb dX5_findAll_327 rfl (lv_at hl 3 rfl) ?_
      refine va_get (D := (dC, dI)) (ci := 4) (v := .ref g14) (C := RX5) (T := TX5) (N := 23) hx hb hts (by decide +kernel) hown hK hP 0 rfl rfl 13 (by decide) (hts (.fieldLink RX5 50 "SignFormsModel" "open" "[I") (by decide +kernel)) (fun _ h9 => h9) rfl dX5_findAll_328 ?_
      refine lv_iload_n hx hb dX5_findAll_331 rfl (lv_at hl 4 rfl) ?_
      refine lv_iload_n hx hb dX5_findAll_332 rfl (lv_at hl 2 rfl) ?_
      refine lv_iload_n hx hb dX5_findAll_333 rfl (lv_at hl 1 rfl) ?_
      refine lv_isub hx hb dX5_findAll_334 ?_
      refine lv_topi (fun x_6 ex_6 => ?_)
      obtain rfl : x_6 = 0 := ex_6.trans (by decide)
      refine va_iast hx hb hK hP hD hS 9 8 rfl rfl (vp_in_iff.mpr (by omega)) dX5_findAll_335 (fun H locs hP hD hS => ?_)
      have hP : va_P (dC, dI) vwCl [(g0, .inr (4, [.ref g1, .ref g2, .ref g3, .ref g4, .ref g5, .ref g6, .ref g7, .ref g8, .ref g9, .ref g10, .ref g11, .ref g12, .ref g13, .ref g14, .ref g15, .ref g16, .ref g17, .ref g18, .int 0, .ref g19, .int 0, .int 0, .int 0])), (g1, .inl (kG1, 4, .inl (upd (fun _ => 0) (p0 : Int32).toNatClampNeg (vp_nar .boolean 1)))), (g2, .inl (kG2, 4, .inl (upd (fun _ => 0) (p0 : Int32).toNatClampNeg (vp_nar .boolean 0)))), (g3, .inl (kG3, 4, .inl (upd (fun _ => 0) (p0 : Int32).toNatClampNeg p1))), (g4, .inl (kG4, 4, .inl (upd (fun _ => 0) (p0 : Int32).toNatClampNeg p1))), (g5, .inl (kG5, 4, .inl (upd (fun _ => 0) (p0 : Int32).toNatClampNeg p2))), (g7, .inl (kG6, 4, .inl (upd (fun _ => 0) (p0 : Int32).toNatClampNeg 0))), (g12, .inl (kG7, 4, .inl (upd (fun _ => 0) (p0 : Int32).toNatClampNeg 0))), (g13, .inl (kG8, 4, .inl (upd (fun _ => 0) (p0 : Int32).toNatClampNeg 0))), (g14, .inl (kG9, 4, .inl (upd (upd (fun _ => 0) (p0 : Int32).toNatClampNeg 0) (p0 : Int32).toNatClampNeg 0))), (g15, .inl (kG10, 4, .inl (upd (fun _ => 0) (p0 : Int32).toNatClampNeg (-1)))), (g16, .inl (kG11, 4, .inl (upd (fun _ => 0) (p0 : Int32).toNatClampNeg (-1)))), (g17, .inl (kG12, 4, .inl (upd (fun _ => 0) (p0 : Int32).toNatClampNeg (vp_nar .boolean 0))))] H := hP
      have hD : va_D A [(g0, .inr (4, [.ref g1, .ref g2, .ref g3, .ref g4, .ref g5, .ref g6, .ref g7, .ref g8, .ref g9, .ref g10, .ref g11, .ref g12, .ref g13, .ref g14, .ref g15, .ref g16, .ref g17, .ref g18, .int 0, .ref g19, .int 0, .int 0, .int 0])), (g1, .inl (kG1, 4, .inl (upd (fun _ => 0) (p0 : Int32).toNatClampNeg (vp_nar .boolean 1)))), (g2, .inl (kG2, 4, .inl (upd (fun _ => 0) (p0 : Int32).toNatClampNeg (vp_nar .boolean 0)))), (g3, .inl (kG3, 4, .inl (upd (fun _ => 0) (p0 : Int32).toNatClampNeg p1))), (g4, .inl (kG4, 4, .inl (upd (fun _ => 0) (p0 : Int32).toNatClampNeg p1))), (g5, .inl (kG5, 4, .inl (upd (fun _ => 0) (p0 : Int32).toNatClampNeg p2))), (g7, .inl (kG6, 4, .inl (upd (fun _ => 0) (p0 : Int32).toNatClampNeg 0))), (g12, .inl (kG7, 4, .inl (upd (fun _ => 0) (p0 : Int32).toNatClampNeg 0))), (g13, .inl (kG8, 4, .inl (upd (fun _ => 0) (p0 : Int32).toNatClampNeg 0))), (g14, .inl (kG9, 4, .inl (upd (upd (fun _ => 0) (p0 : Int32).toNatClampNeg 0) (p0 : Int32).toNatClampNeg 0))), (g15, .inl (kG10, 4, .inl (upd (fun _ => 0) (p0 : Int32).toNatClampNeg (-1)))), (g16, .inl (kG11, 4, .inl (upd (fun _ => 0) (p0 : Int32).toNatClampNeg (-1)))), (g17, .inl (kG12, 4, .inl (upd (fun _ => 0) (p0 : Int32).toNatClampNeg (vp_nar .boolean 0))))] := hD
      exact W.vret hx hb hr (fun t ht hW => ⟨⟨(), rfl, trivial, trivial⟩, hS.F ht⟩) hS.2.2 dX5_findAll_336
    · have zc_3 : p1.toInt = (6 : Int) := zz_eq rfl (by decide) c_3
      exact W.vret hx hb hr (fun t ht hW => ⟨⟨(), rfl, trivial, trivial⟩, hS.F ht⟩) hS.2.2 dX5_findAll_153
  · have zc_2 : p1.toInt = (6 : Int) := zz_eq rfl (by decide) c_2
    refine lv_aload_n hx hb dX5_findAll_105 rfl (lv_at hl 2 rfl) ?_
    refine lv_iload_n hx hb dX5_findAll_106 rfl (lv_at hl 1 rfl) ?_
    refine lv_aload_n hx hb dX5_findAll_107 rfl (lv_at hl 2 rfl) ?_
    refine va_get (D := (dC, dI)) (ci := 4) (v := .ref g2) (C := RX5) (T := TX5) (N := 23) hx hb hts (by decide +kernel) hown hK hP 0 rfl rfl 1 (by decide) (hts (.fieldLink RX5 13 "SignFormsModel" "isEnded" "[Z") (by decide +kernel)) (fun _ h9 => h9) rfl dX5_findAll_108 ?_
    refine lv_iload_n hx hb dX5_findAll_111 rfl (lv_at hl 3 rfl) ?_
    refine va_zald hx hb hK hP 2 1 rfl rfl (vp_in_iff.mpr (by omega)) dX5_findAll_112 ?_
    refine W.eq (g2 := F0 m 113 ls [.int 0, .int 0, .ref g0]) (by rw [pk_us]; rfl) ?_
    have hPc := hP.sub (ws' := [(g0, .inr (4, [.ref g1, .ref g2, .ref g3, .ref g4, .ref g5, .ref g6, .ref g7, .ref g8, .ref g9, .ref g10, .ref g11, .ref g12, .ref g13, .ref g14, .ref g15, .ref g16, .ref g17, .ref g18, .int 0, .ref g19, .int 0, .int 0, .int 0]))]) [0] rfl
    have hKc := hK.sub (tys' := []) [] rfl
    have hDc := hD.sub (ws' := [(g0, .inr (4, [.ref g1, .ref g2, .ref g3, .ref g4, .ref g5, .ref g6, .ref g7, .ref g8, .ref g9, .ref g10, .ref g11, .ref g12, .ref g13, .ref g14, .ref g15, .ref g16, .ref g17, .ref g18, .int 0, .ref g19, .int 0, .int 0, .int 0]))]) [0] (by decide) rfl
    have hFc := va_free (wc := [(g0, .inr (4, [.ref g1, .ref g2, .ref g3, .ref g4, .ref g5, .ref g6, .ref g7, .ref g8, .ref g9, .ref g10, .ref g11, .ref g12, .ref g13, .ref g14, .ref g15, .ref g16, .ref g17, .ref g18, .int 0, .ref g19, .int 0, .int 0, .int 0]))]) hD hS hA [0] rfl
    refine va_calli (va_runV (As := [.int 0, .int 0]) (rest := []) ⟨hx, hb, hml, hown, hts⟩ (kX5_findForm l dC dI g0 g1 g2 g3 g4 g5 g6 g7 g8 g9 g10 g11 g12 g13 g14 g15 g16 g17 g18 g19 H.size) (cwV 2 hts gX5_findAll_X5_findForm rfl rfl rfl (by decide +kernel) ⟨Nat.le_of_ble_eq_true rfl, Nat.le_of_ble_eq_true rfl⟩) ⟨fun a U g mk q => by obtain ⟨q0, q1, qP, qK, qD⟩ := q; exact ⟨q0, q1, qP, va_K.moved (u := U) (U := U.calling g mk a) (Vm.Alike.refl U.vm) qK, qD⟩, va_recv hKc hPc (ci := 4) (q0 := 0) rfl rfl, fun U hU hW => ⟨rfl, by rw [hU], by rw [hU]; exact hPc, va_K.moved hW.alike hKc, hDc.weaken (fun _ _ _ _ => trivial)⟩⟩ rfl rfl hl.1 rfl (lv_room (Nat.le_of_ble_eq_true rfl)) dX5_findAll_113 ⟨Nat.le_of_ble_eq_true rfl, Nat.le_of_ble_eq_true rfl⟩) hS (fun q _ h => hFc q h) hFc (fun r_7 u t H1 locs ht hvm hwr_7 hB hz1 hk1 hS => ?_)
    obtain ⟨hP1, hK1, hD1⟩ := hB
    rw [ht] at hP1
    obtain ⟨hP, hD⟩ := va_join (wr := [(g1, .inl (kG1, 4, .inl (upd (fun _ => 0) (p0 : Int32).toNatClampNeg (vp_nar .boolean 1)))), (g2, .inl (kG2, 4, .inl (upd (fun _ => 0) (p0 : Int32).toNatClampNeg (vp_nar .boolean 0)))), (g3, .inl (kG3, 4, .inl (upd (fun _ => 0) (p0 : Int32).toNatClampNeg p1))), (g4, .inl (kG4, 4, .inl (upd (fun _ => 0) (p0 : Int32).toNatClampNeg p1))), (g5, .inl (kG5, 4, .inl (upd (fun _ => 0) (p0 : Int32).toNatClampNeg p2))), (g7, .inl (kG6, 4, .inl (upd (fun _ => 0) (p0 : Int32).toNatClampNeg 0))), (g12, .inl (kG7, 4, .inl (upd (fun _ => 0) (p0 : Int32).toNatClampNeg 0))), (g13, .inl (kG8, 4, .inl (upd (fun _ => 0) (p0 : Int32).toNatClampNeg 0))), (g14, .inl (kG9, 4, .inl (upd (fun _ => 0) (p0 : Int32).toNatClampNeg 0))), (g15, .inl (kG10, 4, .inl (upd (fun _ => 0) (p0 : Int32).toNatClampNeg (-1)))), (g16, .inl (kG11, 4, .inl (upd (fun _ => 0) (p0 : Int32).toNatClampNeg (-1)))), (g17, .inl (kG12, 4, .inl (upd (fun _ => 0) (p0 : Int32).toNatClampNeg (vp_nar .boolean 0))))]) (w1 := [(g0, .inr (4, [.ref g1, .ref g2, .ref g3, .ref g4, .ref g5, .ref g6, .ref g7, .ref g8, .ref g9, .ref g10, .ref g11, .ref g12, .ref g13, .ref g14, .ref g15, .ref g16, .ref g17, .ref g18, .int 0, .ref g19, .int 0, .int 6, .int 0]))]) hP hD [0] [1, 2, 3, 4, 5, 6, 7, 8, 9, 10, 11, 12] rfl rfl (by decide) (by decide) hk1 hFc hP1 hD1
    generalize H1 = H at hP hS ⊢
    have hP : va_P (dC, dI) vwCl [(g1, .inl (kG1, 4, .inl (upd (fun _ => 0) (p0 : Int32).toNatClampNeg (vp_nar .boolean 1)))), (g2, .inl (kG2, 4, .inl (upd (fun _ => 0) (p0 : Int32).toNatClampNeg (vp_nar .boolean 0)))), (g3, .inl (kG3, 4, .inl (upd (fun _ => 0) (p0 : Int32).toNatClampNeg p1))), (g4, .inl (kG4, 4, .inl (upd (fun _ => 0) (p0 : Int32).toNatClampNeg p1))), (g5, .inl (kG5, 4, .inl (upd (fun _ => 0) (p0 : Int32).toNatClampNeg p2))), (g7, .inl (kG6, 4, .inl (upd (fun _ => 0) (p0 : Int32).toNatClampNeg 0))), (g12, .inl (kG7, 4, .inl (upd (fun _ => 0) (p0 : Int32).toNatClampNeg 0))), (g13, .inl (kG8, 4, .inl (upd (fun _ => 0) (p0 : Int32).toNatClampNeg 0))), (g14, .inl (kG9, 4, .inl (upd (fun _ => 0) (p0 : Int32).toNatClampNeg 0))), (g15, .inl (kG10, 4, .inl (upd (fun _ => 0) (p0 : Int32).toNatClampNeg (-1)))), (g16, .inl (kG11, 4, .inl (upd (fun _ => 0) (p0 : Int32).toNatClampNeg (-1)))), (g17, .inl (kG12, 4, .inl (upd (fun _ => 0) (p0 : Int32).toNatClampNeg (vp_nar .boolean 0)))), (g0, .inr (4, [.ref g1, .ref g2, .ref g3, .ref g4, .ref g5, .ref g6, .ref g7, .ref g8, .ref g9, .ref g10, .ref g11, .ref g12, .ref g13, .ref g14, .ref g15, .ref g16, .ref g17, .ref g18, .int 0, .ref g19, .int 0, .int 6, .int 0]))] H := hP
    have hD : va_D A [(g1, .inl (kG1, 4, .inl (upd (fun _ => 0) (p0 : Int32).toNatClampNeg (vp_nar .boolean 1)))), (g2, .inl (kG2, 4, .inl (upd (fun _ => 0) (p0 : Int32).toNatClampNeg (vp_nar .boolean 0)))), (g3, .inl (kG3, 4, .inl (upd (fun _ => 0) (p0 : Int32).toNatClampNeg p1))), (g4, .inl (kG4, 4, .inl (upd (fun _ => 0) (p0 : Int32).toNatClampNeg p1))), (g5, .inl (kG5, 4, .inl (upd (fun _ => 0) (p0 : Int32).toNatClampNeg p2))), (g7, .inl (kG6, 4, .inl (upd (fun _ => 0) (p0 : Int32).toNatClampNeg 0))), (g12, .inl (kG7, 4, .inl (upd (fun _ => 0) (p0 : Int32).toNatClampNeg 0))), (g13, .inl (kG8, 4, .inl (upd (fun _ => 0) (p0 : Int32).toNatClampNeg 0))), (g14, .inl (kG9, 4, .inl (upd (fun _ => 0) (p0 : Int32).toNatClampNeg 0))), (g15, .inl (kG10, 4, .inl (upd (fun _ => 0) (p0 : Int32).toNatClampNeg (-1)))), (g16, .inl (kG11, 4, .inl (upd (fun _ => 0) (p0 : Int32).toNatClampNeg (-1)))), (g17, .inl (kG12, 4, .inl (upd (fun _ => 0) (p0 : Int32).toNatClampNeg (vp_nar .boolean 0)))), (g0, .inr (4, [.ref g1, .ref g2, .ref g3, .ref g4, .ref g5, .ref g6, .ref g7, .ref g8, .ref g9, .ref g10, .ref g11, .ref g12, .ref g13, .ref g14, .ref g15, .ref g16, .ref g17, .ref g18, .int 0, .ref g19, .int 0, .int 6, .int 0]))] := hD
    subst hwr_7
    refine lv_istore_n (lv' := [(3, .int 0), (2, .int 0), (0, .ref g0), (1, .int p0)]) hx hb dX5_findAll_116 rfl hl (by decide) rfl (fun ls hl => ?_)
    refine lv_aload_n hx hb dX5_findAll_117 rfl (lv_at hl 2 rfl) ?_
    refine va_get (D := (dC, dI)) (ci := 4) (v := .ref g4) (C := RX5) (T := TX5) (N := 23) hx hb hts (by decide +kernel) hown hK hP 12 rfl rfl 3 (by decide) (hts (.fieldLink RX5 20 "SignFormsModel" "form" "[I") (by decide +kernel)) (fun _ h9 => h9) rfl dX5_findAll_118 ?_
    refine lv_iload_n hx hb dX5_findAll_121 rfl (lv_at hl 3 rfl) ?_
    refine lv_aload_n hx hb dX5_findAll_122 rfl (lv_at hl 2 rfl) ?_
    refine va_get (D := (dC, dI)) (ci := 4) (v := .int 6) (C := RX5) (T := TX5) (N := 23) hx hb hts (by decide +kernel) hown hK hP 12 rfl rfl 21 (by decide) (hts (.fieldLink RX5 86 "SignFormsModel" "partValue" "I") (by decide +kernel)) (fun _ h9 => h9) rfl dX5_findAll_123 ?_
    refine va_iast hx hb hK hP hD hS 3 3 rfl rfl (vp_in_iff.mpr (by omega)) dX5_findAll_126 (fun H locs hP hD hS => ?_)
    have hP : va_P (dC, dI) vwCl [(g1, .inl (kG1, 4, .inl (upd (fun _ => 0) (p0 : Int32).toNatClampNeg (vp_nar .boolean 1)))), (g2, .inl (kG2, 4, .inl (upd (fun _ => 0) (p0 : Int32).toNatClampNeg (vp_nar .boolean 0)))), (g3, .inl (kG3, 4, .inl (upd (fun _ => 0) (p0 : Int32).toNatClampNeg p1))), (g4, .inl (kG4, 4, .inl (upd (upd (fun _ => 0) (p0 : Int32).toNatClampNeg p1) (p0 : Int32).toNatClampNeg 6))), (g5, .inl (kG5, 4, .inl (upd (fun _ => 0) (p0 : Int32).toNatClampNeg p2))), (g7, .inl (kG6, 4, .inl (upd (fun _ => 0) (p0 : Int32).toNatClampNeg 0))), (g12, .inl (kG7, 4, .inl (upd (fun _ => 0) (p0 : Int32).toNatClampNeg 0))), (g13, .inl (kG8, 4, .inl (upd (fun _ => 0) (p0 : Int32).toNatClampNeg 0))), (g14, .inl (kG9, 4, .inl (upd (fun _ => 0) (p0 : Int32).toNatClampNeg 0))), (g15, .inl (kG10, 4, .inl (upd (fun _ => 0) (p0 : Int32).toNatClampNeg (-1)))), (g16, .inl (kG11, 4, .inl (upd (fun _ => 0) (p0 : Int32).toNatClampNeg (-1)))), (g17, .inl (kG12, 4, .inl (upd (fun _ => 0) (p0 : Int32).toNatClampNeg (vp_nar .boolean 0)))), (g0, .inr (4, [.ref g1, .ref g2, .ref g3, .ref g4, .ref g5, .ref g6, .ref g7, .ref g8, .ref g9, .ref g10, .ref g11, .ref g12, .ref g13, .ref g14, .ref g15, .ref g16, .ref g17, .ref g18, .int 0, .ref g19, .int 0, .int 6, .int 0]))] H := hP
    have hD : va_D A [(g1, .inl (kG1, 4, .inl (upd (fun _ => 0) (p0 : Int32).toNatClampNeg (vp_nar .boolean 1)))), (g2, .inl (kG2, 4, .inl (upd (fun _ => 0) (p0 : Int32).toNatClampNeg (vp_nar .boolean 0)))), (g3, .inl (kG3, 4, .inl (upd (fun _ => 0) (p0 : Int32).toNatClampNeg p1))), (g4, .inl (kG4, 4, .inl (upd (upd (fun _ => 0) (p0 : Int32).toNatClampNeg p1) (p0 : Int32).toNatClampNeg 6))), (g5, .inl (kG5, 4, .inl (upd (fun _ => 0) (p0 : Int32).toNatClampNeg p2))), (g7, .inl (kG6, 4, .inl (upd (fun _ => 0) (p0 : Int32).toNatClampNeg 0))), (g12, .inl (kG7, 4, .inl (upd (fun _ => 0) (p0 : Int32).toNatClampNeg 0))), (g13, .inl (kG8, 4, .inl (upd (fun _ => 0) (p0 : Int32).toNatClampNeg 0))), (g14, .inl (kG9, 4, .inl (upd (fun _ => 0) (p0 : Int32).toNatClampNeg 0))), (g15, .inl (kG10, 4, .inl (upd (fun _ => 0) (p0 : Int32).toNatClampNeg (-1)))), (g16, .inl (kG11, 4, .inl (upd (fun _ => 0) (p0 : Int32).toNatClampNeg (-1)))), (g17, .inl (kG12, 4, .inl (upd (fun _ => 0) (p0 : Int32).toNatClampNeg (vp_nar .boolean 0)))), (g0, .inr (4, [.ref g1, .ref g2, .ref g3, .ref g4, .ref g5, .ref g6, .ref g7, .ref g8, .ref g9, .ref g10, .ref g11, .ref g12, .ref g13, .ref g14, .ref g15, .ref g16, .ref g17, .ref g18, .int 0, .ref g19, .int 0, .int 6, .int 0]))] := hD
    refine lv_aload_n hx hb dX5_findAll_127 rfl (lv_at hl 2 rfl) ?_
    refine va_get (D := (dC, dI)) (ci := 4) (v := .ref g17) (C := RX5) (T := TX5) (N := 23) hx hb hts (by decide +kernel) hown hK hP 12 rfl rfl 16 (by decide) (hts (.fieldLink RX5 59 "SignFormsModel" "isMarked" "[Z") (by decide +kernel)) (fun _ h9 => h9) rfl dX5_findAll_128 ?_
    refine lv_iload_n hx hb dX5_findAll_131 rfl (lv_at hl 3 rfl) ?_
    refine lv_iload_n hx hb dX5_findAll_132 rfl (lv_at hl 0 rfl) ?_
    refine lv_if_le (tgt := 140) hx hb dX5_findAll_133 (by decide) (fun _ => ?_) (fun c_8 => False.elim (by revert c_8; decide))
    refine lv_iconst (v := 0) hx hb dX5_findAll_140 (by decide) ?_
    refine va_zast hx hb hK hP hD hS 11 11 rfl rfl (vp_in_iff.mpr (by omega)) dX5_findAll_141 (fun H locs hP hD hS => ?_)
    have hP : va_P (dC, dI) vwCl [(g1, .inl (kG1, 4, .inl (upd (fun _ => 0) (p0 : Int32).toNatClampNeg (vp_nar .boolean 1)))), (g2, .inl (kG2, 4, .inl (upd (fun _ => 0) (p0 : Int32).toNatClampNeg (vp_nar .boolean 0)))), (g3, .inl (kG3, 4, .inl (upd (fun _ => 0) (p0 : Int32).toNatClampNeg p1))), (g4, .inl (kG4, 4, .inl (upd (upd (fun _ => 0) (p0 : Int32).toNatClampNeg p1) (p0 : Int32).toNatClampNeg 6))), (g5, .inl (kG5, 4, .inl (upd (fun _ => 0) (p0 : Int32).toNatClampNeg p2))), (g7, .inl (kG6, 4, .inl (upd (fun _ => 0) (p0 : Int32).toNatClampNeg 0))), (g12, .inl (kG7, 4, .inl (upd (fun _ => 0) (p0 : Int32).toNatClampNeg 0))), (g13, .inl (kG8, 4, .inl (upd (fun _ => 0) (p0 : Int32).toNatClampNeg 0))), (g14, .inl (kG9, 4, .inl (upd (fun _ => 0) (p0 : Int32).toNatClampNeg 0))), (g15, .inl (kG10, 4, .inl (upd (fun _ => 0) (p0 : Int32).toNatClampNeg (-1)))), (g16, .inl (kG11, 4, .inl (upd (fun _ => 0) (p0 : Int32).toNatClampNeg (-1)))), (g17, .inl (kG12, 4, .inl (upd (upd (fun _ => 0) (p0 : Int32).toNatClampNeg (vp_nar .boolean 0)) (p0 : Int32).toNatClampNeg (vp_nar .boolean 0)))), (g0, .inr (4, [.ref g1, .ref g2, .ref g3, .ref g4, .ref g5, .ref g6, .ref g7, .ref g8, .ref g9, .ref g10, .ref g11, .ref g12, .ref g13, .ref g14, .ref g15, .ref g16, .ref g17, .ref g18, .int 0, .ref g19, .int 0, .int 6, .int 0]))] H := hP
    have hD : va_D A [(g1, .inl (kG1, 4, .inl (upd (fun _ => 0) (p0 : Int32).toNatClampNeg (vp_nar .boolean 1)))), (g2, .inl (kG2, 4, .inl (upd (fun _ => 0) (p0 : Int32).toNatClampNeg (vp_nar .boolean 0)))), (g3, .inl (kG3, 4, .inl (upd (fun _ => 0) (p0 : Int32).toNatClampNeg p1))), (g4, .inl (kG4, 4, .inl (upd (upd (fun _ => 0) (p0 : Int32).toNatClampNeg p1) (p0 : Int32).toNatClampNeg 6))), (g5, .inl (kG5, 4, .inl (upd (fun _ => 0) (p0 : Int32).toNatClampNeg p2))), (g7, .inl (kG6, 4, .inl (upd (fun _ => 0) (p0 : Int32).toNatClampNeg 0))), (g12, .inl (kG7, 4, .inl (upd (fun _ => 0) (p0 : Int32).toNatClampNeg 0))), (g13, .inl (kG8, 4, .inl (upd (fun _ => 0) (p0 : Int32).toNatClampNeg 0))), (g14, .inl (kG9, 4, .inl (upd (fun _ => 0) (p0 : Int32).toNatClampNeg 0))), (g15, .inl (kG10, 4, .inl (upd (fun _ => 0) (p0 : Int32).toNatClampNeg (-1)))), (g16, .inl (kG11, 4, .inl (upd (fun _ => 0) (p0 : Int32).toNatClampNeg (-1)))), (g17, .inl (kG12, 4, .inl (upd (upd (fun _ => 0) (p0 : Int32).toNatClampNeg (vp_nar .boolean 0)) (p0 : Int32).toNatClampNeg (vp_nar .boolean 0)))), (g0, .inr (4, [.ref g1, .ref g2, .ref g3, .ref g4, .ref g5, .ref g6, .ref g7, .ref g8, .ref g9, .ref g10, .ref g11, .ref g12, .ref g13, .ref g14, .ref g15, .ref g16, .ref g17, .ref g18, .int 0, .ref g19, .int 0, .int 6, .int 0]))] := hD
    refine lv_aload_n hx hb dX5_findAll_142 rfl (lv_at hl 2 rfl) ?_
    refine va_get (D := (dC, dI)) (ci := 4) (v := .ref g4) (C := RX5) (T := TX5) (N := 23) hx hb hts (by decide +kernel) hown hK hP 12 rfl rfl 3 (by decide) (hts (.fieldLink RX5 20 "SignFormsModel" "form" "[I") (by decide +kernel)) (fun _ h9 => h9) rfl dX5_findAll_143 ?_
    refine lv_iload_n hx hb dX5_findAll_146 rfl (lv_at hl 3 rfl) ?_
    refine va_iald hx hb hK hP 3 3 rfl rfl (vp_in_iff.mpr (by omega)) dX5_findAll_147 ?_
    refine W.eq (g2 := F0 m 148 ls [.int 6]) (by rw [pk_us]) ?_
    refine lv_bipush (v := 6) hx hb dX5_findAll_148 (by decide +kernel) ?_
    refine lv_icmp_ne (tgt := 154) hx hb dX5_findAll_150 (by decide) (fun c_9 => False.elim (by revert c_9; decide)) (fun _ => ?_)
    exact W.vret hx hb hr (fun t ht hW => ⟨⟨(), rfl, trivial, trivial⟩, hS.F ht⟩) hS.2.2 dX5_findAll_153
end
