set_option maxRecDepth 100000 in
set_option maxHeartbeats 4000000 in
theorem c_X4_herbNumbered (Γ : hGam) (l : Launch) {M : hM} {x hl9 edh n : Nat} {ol rk tr : Option Nat} {win day : Int32} {hb : Nat → Nat} {eH lH : Nat → Int32} (h : Int32) (pL : M x = some (true, oLoft (some hl9) ol rk tr win day)) (pH : pHd Γ M hl9 edh n hb eH lH) (hn6 : n ≤ 6) : hMet Γ l yX4_herbNumbered cX4_herbNumbered 2 (some (.object RX0)) rm_X4_herbNumbered [.ref x, .int h] M (hpO M (if (decide (0 ≤ h) && decide (h < nI n)) = true then some (hb (hNo h)) else none)) := by
  refine hMet_of (by decide +kernel) (Nat.le_of_ble_eq_true rfl) (hCat_cons rfl (hCat_cons rfl hCat_nil)) (fun k C => ?_)
  show hG _ _ _ _ _ _ _ _ [some (.ref x), some (.int h)] _
  refine g_iload_n (q := 1) C dX4_herbNumbered_0 rfl rfl ?_
  refine g_if_lt (t := 29) (q := 4) C dX4_herbNumbered_1 (by decide) rfl (fun c_1 => ?_) (fun c_1 => ?_)
  · skip
    refine g_null (q := 30) C dX4_herbNumbered_29 rfl ?_
    exact g_aret C dX4_herbNumbered_30 (by first | exact Or.inl ⟨_, rfl⟩ | exact Or.inr ⟨_, rfl⟩) rfl (⟨by rw [if_neg (by simp [Int32.not_le.mpr c_1])], rfl⟩) (Nat.zero_le _) (Nat.zero_le _)
  · skip
    obtain ⟨j, hj31, rfl⟩ := nI_of c_1
    refine g_iload_n (q := 5) C dX4_herbNumbered_4 rfl rfl ?_
    refine g_aload_n (q := 6) C dX4_herbNumbered_5 rfl (by first | exact hRef_r _ | exact hRef_o _ | exact hRef_n) rfl ?_
    refine g_get (q := 9) C hcl_X4 0 (by decide) qw_116 rfl dX4_herbNumbered_6 (by exact pL) rfl rfl ?_
    refine g_callV0P (q := 12) C hy_Jx4a65c_size_8abf5 (c_Jx4a65c_size_8abf5 Γ l pH.1) qw_271 (by exact pH.1.choose_spec.choose_spec.choose_spec.choose_spec.1) rfl ⟨Nat.le_of_ble_eq_true rfl, Nat.le_of_ble_eq_true rfl⟩ (Nat.le_of_ble_eq_true rfl) rfl dX4_herbNumbered_9 ⟨rfl, rfl⟩ ⟨Nat.zero_le _, Nat.zero_le _⟩ rfl ?_
    refine g_icmp_ge (t := 29) (q := 15) C dX4_herbNumbered_12 (by decide) rfl (fun c_12 => ?_) (fun c_12 => ?_)
    · skip
      have hjn : ¬ nI j < nI n := Int32.not_lt.mpr c_12
      refine g_null (q := 30) C dX4_herbNumbered_29 rfl ?_
      exact g_aret C dX4_herbNumbered_30 (by first | exact Or.inl ⟨_, rfl⟩ | exact Or.inr ⟨_, rfl⟩) rfl (⟨by rw [if_neg (by simp [hjn])], rfl⟩) (Nat.zero_le _) (Nat.zero_le _)
    · skip
      have hjn : j < n := by
        rcases Nat.lt_or_ge j n with q | q
        · exact q
        · exact absurd (nI_le q hj31) c_12
      refine g_aload_n (q := 16) C dX4_herbNumbered_15 rfl (by first | exact hRef_r _ | exact hRef_o _ | exact hRef_n) rfl ?_
      refine g_get (q := 19) C hcl_X4 0 (by decide) qw_116 rfl dX4_herbNumbered_16 (by exact pL) rfl rfl ?_
      refine g_iload_n (q := 20) C dX4_herbNumbered_19 rfl rfl ?_
      refine g_callV1O (q := 23) C hy_Jx4a65c_get_915e3 (c_Jx4a65c_get_915e3 Γ l j pH.1 hjn) qw_275 (by exact pH.1.choose_spec.choose_spec.choose_spec.choose_spec.1) rfl ⟨Nat.le_of_ble_eq_true rfl, Nat.le_of_ble_eq_true rfl⟩ (Nat.le_of_ble_eq_true rfl) rfl dX4_herbNumbered_20 ⟨rfl, rfl⟩ ⟨Nat.zero_le _, Nat.zero_le _⟩ rfl ?_
      refine g_cast (q := 26) C qw_389 rfl (pH.2.1 j hjn) dX4_herbNumbered_23 rfl ?_
      refine g_goto (t := 30) C dX4_herbNumbered_26 (by decide) ?_
      exact g_aret C dX4_herbNumbered_30 (by first | exact Or.inl ⟨_, rfl⟩ | exact Or.inr ⟨_, rfl⟩) rfl (⟨by rw [if_pos (by simp [nI_pos' hj31, nI_lt hjn (by omega)]), show hNo (nI j) = j from nI_clamp hj31] <;> rfl, rfl⟩) (Nat.zero_le _) (Nat.zero_le _)
set_option maxRecDepth 100000 in
set_option maxHeartbeats 4000000 in
theorem c_X4_ordersThatGotAll (Γ : hGam) (l : Launch) {M : hM} {x ol edo n : Nat} {hl9 rk tr : Option Nat} {win day : Int32} {ob hb : Nat → Nat} {W : Nat → Nat} {Mn Dr G : Nat → Int32} (pL : M x = some (true, oLoft hl9 (some ol) rk tr win day)) (pO : pOd Γ M ol edo n ob hb W Mn Dr G) (hn6 : n ≤ 6) : hMet Γ l yX4_ordersThatGotAll cX4_ordersThatGotAll 3 (some .int) rm_X4_ordersThatGotAll [.ref x] M (hpP M (hIt (fun i s => if G i < Mn i then s else s + 1) 0 n)) := by
  refine hMet_of (by decide +kernel) (Nat.le_of_ble_eq_true rfl) (hCat_cons rfl hCat_nil) (fun k C => ?_)
  show hG _ _ _ _ _ _ _ _ [some (.ref x), none, none] _
  refine g_iconst (q := 1) (0) C dX4_ordersThatGotAll_0 (by decide) rfl ?_
  refine g_istore1 (q := 2) C dX4_ordersThatGotAll_1 (by first | rfl | exact hNw_rf _) rfl ?_
  refine g_iconst (q := 3) (0) C dX4_ordersThatGotAll_2 (by decide) rfl ?_
  refine g_istore2 (q := 4) C dX4_ordersThatGotAll_3 (by first | rfl | exact hNw_rf _) rfl ?_
  refine h_loopU (P := fun i => ∀ acc : Int32, acc = hIt (fun i s => if G i < Mn i then s else s + 1) 0 i → hG Γ k _ _ M 0 0 4 [some (.ref x), some (.int acc), some (.int (nI i))] []) (N := n) (fun i hi ih => ?_) 0 (Nat.zero_le _) _ rfl
  intro acc hacc
  refine g_iload_n (q := 5) C dX4_ordersThatGotAll_4 rfl rfl ?_
  refine g_aload_n (q := 6) C dX4_ordersThatGotAll_5 rfl (by first | exact hRef_r _ | exact hRef_o _ | exact hRef_n) rfl ?_
  refine g_get (q := 9) C hcl_X4 1 (by decide) qw_117 rfl dX4_ordersThatGotAll_6 (by first | exact pL | exact pO.2.1 i hlt) rfl rfl ?_
  refine g_callV0P (q := 12) C hy_Jx4a65c_size_8abf5 (c_Jx4a65c_size_8abf5 Γ l pO.1) qw_271 (by exact pO.1.choose_spec.choose_spec.choose_spec.choose_spec.1) rfl ⟨Nat.le_of_ble_eq_true rfl, Nat.le_of_ble_eq_true rfl⟩ (Nat.le_of_ble_eq_true rfl) rfl dX4_ordersThatGotAll_9 ⟨rfl, rfl⟩ ⟨Nat.zero_le _, Nat.zero_le _⟩ rfl ?_
  refine g_icmp_ge (t := 41) (q := 15) C dX4_ordersThatGotAll_12 (by decide) rfl (fun c_12 => ?_) (fun c_12 => ?_)
  · skip
    have hN := nI_ge_eq hi (by omega) c_12
    subst hN
    refine g_iload_n (q := 42) C dX4_ordersThatGotAll_41 rfl rfl ?_
    exact g_iret C dX4_ordersThatGotAll_42 (⟨hacc, rfl⟩) (Nat.zero_le _) (Nat.zero_le _)
  · skip
    have hlt := nI_nge_lt hi (by omega) c_12
    refine g_aload_n (q := 16) C dX4_ordersThatGotAll_15 rfl (by first | exact hRef_r _ | exact hRef_o _ | exact hRef_n) rfl ?_
    refine g_get (q := 19) C hcl_X4 1 (by decide) qw_117 rfl dX4_ordersThatGotAll_16 (by first | exact pL | exact pO.2.1 i hlt) rfl rfl ?_
    refine g_iload_n (q := 20) C dX4_ordersThatGotAll_19 rfl rfl ?_
    refine g_callV1O (q := 23) C hy_Jx4a65c_get_915e3 (c_Jx4a65c_get_915e3 Γ l i pO.1 hlt) qw_275 (by exact pO.1.choose_spec.choose_spec.choose_spec.choose_spec.1) rfl ⟨Nat.le_of_ble_eq_true rfl, Nat.le_of_ble_eq_true rfl⟩ (Nat.le_of_ble_eq_true rfl) rfl dX4_ordersThatGotAll_20 ⟨rfl, rfl⟩ ⟨Nat.zero_le _, Nat.zero_le _⟩ rfl ?_
    refine g_cast (q := 26) C qw_289 rfl (pO.2.1 i hlt) dX4_ordersThatGotAll_23 rfl ?_
    refine g_callV0P (q := 29) C hy_X2_needsSome (c_X2_needsSome Γ l (pO.2.1 i hlt)) qw_427 (by exact pO.2.1 i hlt) rfl ⟨Nat.le_of_ble_eq_true rfl, Nat.le_of_ble_eq_true rfl⟩ (Nat.le_of_ble_eq_true rfl) rfl dX4_ordersThatGotAll_26 ⟨rfl, rfl⟩ ⟨Nat.zero_le _, Nat.zero_le _⟩ rfl ?_
    refine g_ifB_ne (t := 35) (q := 32) C dX4_ordersThatGotAll_29 (by decide) rfl (fun c_29 => ?_) (fun c_29 => ?_)
    · skip
      refine g_iinc2 (q := 38) (1) C dX4_ordersThatGotAll_35 (by decide) (by first | rfl | exact hNw_rf _) rfl ?_
      refine g_goto (t := 4) C dX4_ordersThatGotAll_38 (by decide) ?_
      rw [nI_1]
      refine ih hlt _ ?_
      rw [hIt_s, ← hacc]; simp [of_decide_eq_true, of_decide_eq_false, decide_eq_true_eq, decide_eq_false_iff_not] at *; simp [*]
    · skip
      refine g_iinc1 (q := 35) (1) C dX4_ordersThatGotAll_32 (by decide) (by first | rfl | exact hNw_rf _) rfl ?_
      refine g_iinc2 (q := 38) (1) C dX4_ordersThatGotAll_35 (by decide) (by first | rfl | exact hNw_rf _) rfl ?_
      refine g_goto (t := 4) C dX4_ordersThatGotAll_38 (by decide) ?_
      rw [nI_1]
      refine ih hlt _ ?_
      rw [hIt_s, ← hacc]; simp [of_decide_eq_true, of_decide_eq_false, decide_eq_true_eq, decide_eq_false_iff_not] at *; simp [*]
set_option maxRecDepth 100000 in
set_option maxHeartbeats 4000000 in
theorem c_X4_bundlesGiven (Γ : hGam) (l : Launch) {M : hM} {x ol edo n : Nat} {hl9 rk tr : Option Nat} {win day : Int32} {ob hb : Nat → Nat} {W : Nat → Nat} {Mn Dr G : Nat → Int32} (pL : M x = some (true, oLoft hl9 (some ol) rk tr win day)) (pO : pOd Γ M ol edo n ob hb W Mn Dr G) (hn6 : n ≤ 6) : hMet Γ l yX4_bundlesGiven cX4_bundlesGiven 3 (some .int) rm_X4_bundlesGiven [.ref x] M (hpP M (hIt (fun i s => s + G i) 0 n)) := by
  refine hMet_of (by decide +kernel) (Nat.le_of_ble_eq_true rfl) (hCat_cons rfl hCat_nil) (fun k C => ?_)
  show hG _ _ _ _ _ _ _ _ [some (.ref x), none, none] _
  refine g_iconst (q := 1) (0) C dX4_bundlesGiven_0 (by decide) rfl ?_
  refine g_istore1 (q := 2) C dX4_bundlesGiven_1 (by first | rfl | exact hNw_rf _) rfl ?_
  refine g_iconst (q := 3) (0) C dX4_bundlesGiven_2 (by decide) rfl ?_
  refine g_istore2 (q := 4) C dX4_bundlesGiven_3 (by first | rfl | exact hNw_rf _) rfl ?_
  refine h_loopU (P := fun i => ∀ acc : Int32, acc = hIt (fun i s => s + G i) 0 i → hG Γ k _ _ M 0 0 4 [some (.ref x), some (.int acc), some (.int (nI i))] []) (N := n) (fun i hi ih => ?_) 0 (Nat.zero_le _) _ rfl
  intro acc hacc
  refine g_iload_n (q := 5) C dX4_bundlesGiven_4 rfl rfl ?_
  refine g_aload_n (q := 6) C dX4_bundlesGiven_5 rfl (by first | exact hRef_r _ | exact hRef_o _ | exact hRef_n) rfl ?_
  refine g_get (q := 9) C hcl_X4 1 (by decide) qw_117 rfl dX4_bundlesGiven_6 (by first | exact pL | exact pO.2.1 i hlt) rfl rfl ?_
  refine g_callV0P (q := 12) C hy_Jx4a65c_size_8abf5 (c_Jx4a65c_size_8abf5 Γ l pO.1) qw_271 (by exact pO.1.choose_spec.choose_spec.choose_spec.choose_spec.1) rfl ⟨Nat.le_of_ble_eq_true rfl, Nat.le_of_ble_eq_true rfl⟩ (Nat.le_of_ble_eq_true rfl) rfl dX4_bundlesGiven_9 ⟨rfl, rfl⟩ ⟨Nat.zero_le _, Nat.zero_le _⟩ rfl ?_
  refine g_icmp_ge (t := 38) (q := 15) C dX4_bundlesGiven_12 (by decide) rfl (fun c_12 => ?_) (fun c_12 => ?_)
  · skip
    have hN := nI_ge_eq hi (by omega) c_12
    subst hN
    refine g_iload_n (q := 39) C dX4_bundlesGiven_38 rfl rfl ?_
    exact g_iret C dX4_bundlesGiven_39 (⟨hacc, rfl⟩) (Nat.zero_le _) (Nat.zero_le _)
  · skip
    have hlt := nI_nge_lt hi (by omega) c_12
    refine g_iload_n (q := 16) C dX4_bundlesGiven_15 rfl rfl ?_
    refine g_aload_n (q := 17) C dX4_bundlesGiven_16 rfl (by first | exact hRef_r _ | exact hRef_o _ | exact hRef_n) rfl ?_
    refine g_get (q := 20) C hcl_X4 1 (by decide) qw_117 rfl dX4_bundlesGiven_17 (by first | exact pL | exact pO.2.1 i hlt) rfl rfl ?_
    refine g_iload_n (q := 21) C dX4_bundlesGiven_20 rfl rfl ?_
    refine g_callV1O (q := 24) C hy_Jx4a65c_get_915e3 (c_Jx4a65c_get_915e3 Γ l i pO.1 hlt) qw_275 (by exact pO.1.choose_spec.choose_spec.choose_spec.choose_spec.1) rfl ⟨Nat.le_of_ble_eq_true rfl, Nat.le_of_ble_eq_true rfl⟩ (Nat.le_of_ble_eq_true rfl) rfl dX4_bundlesGiven_21 ⟨rfl, rfl⟩ ⟨Nat.zero_le _, Nat.zero_le _⟩ rfl ?_
    refine g_cast (q := 27) C qw_289 rfl (pO.2.1 i hlt) dX4_bundlesGiven_24 rfl ?_
    refine g_get (q := 30) C hcl_X2 3 (by decide) qw_562 rfl dX4_bundlesGiven_27 (by first | exact pL | exact pO.2.1 i hlt) rfl rfl ?_
    refine g_iadd (q := 31) C dX4_bundlesGiven_30 rfl ?_
    refine g_istore1 (q := 32) C dX4_bundlesGiven_31 (by first | rfl | exact hNw_rf _) rfl ?_
    refine g_iinc2 (q := 35) (1) C dX4_bundlesGiven_32 (by decide) (by first | rfl | exact hNw_rf _) rfl ?_
    refine g_goto (t := 4) C dX4_bundlesGiven_35 (by decide) ?_
    rw [nI_1]
    refine ih hlt _ ?_
    rw [hIt_s, ← hacc]
