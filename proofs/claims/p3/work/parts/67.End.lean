theorem i_vc : Claimed_1_1 ∧ Claimed_1_2 := i_vc_open (F := 4294967297) (show Big 4294967297 from Nat.le_refl _) (mo_ok (show Big 4294967297 from Nat.le_refl _)) mo_start mo_len

