theorem lq_ao : Cond.arrayOver (.object "SignForms$Stream") ∈ lw_tbl := List.mem_of_getElem? (i := 56) (by decide +kernel)
theorem lq_n4 : Cond.methodLinkNest RX4 24 yX2_init "SignForms" ∈ lw_tbl := List.mem_of_getElem? (i := 75) (by decide +kernel)
theorem lq_n3 : Cond.methodLinkNest RX3 29 yX2_init "SignForms" ∈ lw_tbl := List.mem_of_getElem? (i := 118) (by decide +kernel)
