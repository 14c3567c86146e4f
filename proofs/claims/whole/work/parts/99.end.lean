theorem mm_pure : mm_Pure := lw_pure st_agreement
theorem i_vc : Claimed_1_1 ∧ Claimed_1_2 := mm_vc mm_pure
