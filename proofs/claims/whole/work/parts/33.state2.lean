set_option maxRecDepth 100000 in
set_option maxHeartbeats 4000000 in
theorem c_X5_copy (Γ : hGam) (l : Launch) {M : hM} {a0 a1 : Nat} {w : Bool} {f g : Nat → Int32}  (h0 : M a0 = some (w, aI Γ 40 f)) (h1 : M a1 = some (true, aI Γ 40 g))  : hMet Γ l yX5_copy cX5_copy 2 none rm_X5_copy [.ref a0, .ref a1] M (hpV (fun M1 => M1 = hU M a1 (aI Γ 40 (va_cpy f g 0 0 40)))) := by
  refine hMet_of (by decide +kernel) (Nat.le_of_ble_eq_true rfl) (hCat_cons rfl (hCat_cons rfl hCat_nil)) (fun k9 C => ?_)
  show hG _ _ _ _ _ _ _ _ [some (.ref a0), some (.ref a1)] _
  refine g_aload_n (q := 1) C dX5_copy_0 rfl (by first | exact hRef_r _ | exact hRef_o _ | exact hRef_n) rfl ?_
  refine g_iconst (q := 2) (0) C dX5_copy_1 (by decide) rfl ?_
  refine g_aload_n (q := 3) C dX5_copy_2 rfl (by first | exact hRef_r _ | exact hRef_o _ | exact hRef_n) rfl ?_
  refine g_iconst (q := 4) (0) C dX5_copy_3 (by decide) rfl ?_
  refine g_bipush (q := 6) (40) C dX5_copy_4 (by decide) rfl ?_
  refine g_copyi (q := 9) C qw_860 hw_copy rfl 0 0 40 rfl rfl rfl (by decide) (by decide) (by decide) (by decide) h0 h1 (by decide) (by decide) dX5_copy_6 rfl ?_
  exact g_vret C dX5_copy_9 (rfl) (Nat.zero_le _) (Nat.zero_le _)
set_option maxHeartbeats 2000000 in
theorem rG_fu {G : Nat → Nat → Int32} {o o2 : Nat} (hd : o + 5 ≤ o2 ∨ o2 + 5 ≤ o) {g0 g1 g2 g3 g4 : Nat → Int32} : rG (fUp (fUp (fUp (fUp (fUp G o g0) (o + 1) g1) (o + 2) g2) (o + 3) g3) (o + 4) g4) o = fun i => (g0 i, g1 i, g2 i, g3 i, g4 i) := by
  funext i
  unfold rG
  rw [fUp_s, fUp_n (show o + 3 ≠ o + 4 by omega), fUp_s, fUp_n (show o + 2 ≠ o + 4 by omega), fUp_n (show o + 2 ≠ o + 3 by omega), fUp_s, fUp_n (show o + 1 ≠ o + 4 by omega), fUp_n (show o + 1 ≠ o + 3 by omega), fUp_n (show o + 1 ≠ o + 2 by omega), fUp_s, fUp_n (show o ≠ o + 4 by omega), fUp_n (show o ≠ o + 3 by omega), fUp_n (show o ≠ o + 2 by omega), fUp_n (show o ≠ o + 1 by omega), fUp_s]
theorem fu5_n {G : Nat → Nat → Int32} {o c : Nat} (hc : c < o ∨ o + 5 ≤ c) {g0 g1 g2 g3 g4 : Nat → Int32} : fUp (fUp (fUp (fUp (fUp G o g0) (o + 1) g1) (o + 2) g2) (o + 3) g3) (o + 4) g4 c = G c := by
  rw [fUp_n (by omega), fUp_n (by omega), fUp_n (by omega), fUp_n (by omega), fUp_n (by omega)]
theorem fu1_n {G : Nat → Nat → Int32} {o c : Nat} (hc : c < o ∨ o + 5 ≤ c) {g0 : Nat → Int32} : (fUp G (o) g0) c = G c := by
  rw [fUp_n (by omega)]
theorem fu2_n {G : Nat → Nat → Int32} {o c : Nat} (hc : c < o ∨ o + 5 ≤ c) {g0 g1 : Nat → Int32} : (fUp (fUp G (o) g0) (o + 1) g1) c = G c := by
  rw [fUp_n (by omega), fUp_n (by omega)]
theorem fu3_n {G : Nat → Nat → Int32} {o c : Nat} (hc : c < o ∨ o + 5 ≤ c) {g0 g1 g2 : Nat → Int32} : (fUp (fUp (fUp G (o) g0) (o + 1) g1) (o + 2) g2) c = G c := by
  rw [fUp_n (by omega), fUp_n (by omega), fUp_n (by omega)]
theorem fu4_n {G : Nat → Nat → Int32} {o c : Nat} (hc : c < o ∨ o + 5 ≤ c) {g0 g1 g2 g3 : Nat → Int32} : (fUp (fUp (fUp (fUp G (o) g0) (o + 1) g1) (o + 2) g2) (o + 3) g3) c = G c := by
  rw [fUp_n (by omega), fUp_n (by omega), fUp_n (by omega), fUp_n (by omega)]
set_option maxRecDepth 100000 in
set_option maxHeartbeats 4000000 in
theorem c_X5_become (Γ : hGam) (l : Launch) {M : hM} {x o : Nat} {ad : Nat → Nat} {G : Nat → Nat → Int32} {d9 : Int32} {y o2 : Nat} {d2 : Int32}  (h : mdA Γ M ad G) (hs : M x = some (true, oSt ad o d9)) (ho : o + 4 < 15) (hs2 : M y = some (true, oSt ad o2 d2)) (ho2 : o2 + 4 < 15) (hd : o + 5 ≤ o2 ∨ o2 + 5 ≤ o) (hxy : x ≠ y)  : hMet Γ l yX5_become cX5_become 2 none rm_X5_become [.ref x, .ref y] M (hpV (fun M1 => ∃ G1, mdA Γ M1 ad G1 ∧ (∀ c, c < o ∨ o + 5 ≤ c → G1 c = G c) ∧ (∀ i, i < 40 → rG G1 o i = rG G o2 i) ∧ M1 x = some (true, oSt ad o d2) ∧ hOff M M1 (fun a => onAd ad a ∨ a = x))) := by
  refine hMet_of (by decide +kernel) (Nat.le_of_ble_eq_true rfl) (hCat_cons rfl (hCat_cons rfl hCat_nil)) (fun k9 C => ?_)
  show hG _ _ _ _ _ _ _ _ [some (.ref x), some (.ref y)] _
  refine g_aload_n (q := 1) C dX5_become_0 rfl (by first | exact hRef_r _ | exact hRef_o _ | exact hRef_n) rfl ?_
  refine g_aload_n (q := 2) C dX5_become_1 rfl (by first | exact hRef_r _ | exact hRef_o _ | exact hRef_n) rfl ?_
  refine g_get (q := 5) C hcl_X5 0 (by decide) qw_683 rfl dX5_become_2 (by exact hs2) rfl rfl ?_
  refine g_put (q := 8) C hcl_X5 0 (by decide) qw_683 rfl rfl rfl rfl dX5_become_5 (by exact hs) (Nat.le_of_ble_eq_true rfl) rfl ?_
  (try rw [hU_2])
  have hA0 : mdA Γ (hU M x (oSt ad o d2)) ad G := h.cell hs _
  have hO0 : hOff (hU M x (oSt ad o d2)) (hU M x (oSt ad o d2)) (onAd ad) := hOff.rf
  have hx0 : (hU M x (oSt ad o d2)) x = some (true, oSt ad o d2) := hU_s _ _ _
  have hy0 : (hU M x (oSt ad o d2)) y = some (true, oSt ad o2 d2) := (hU_n (Ne.symm hxy)).trans hs2
  refine g_aload_n (q := 9) C dX5_become_8 rfl (by first | exact hRef_r _ | exact hRef_o _ | exact hRef_n) rfl ?_
  refine g_get (q := 12) C hcl_X5 1 (by decide) qw_685 rfl dX5_become_9 (by exact hy0) rfl rfl ?_
  refine g_aload_n (q := 13) C dX5_become_12 rfl (by first | exact hRef_r _ | exact hRef_o _ | exact hRef_n) rfl ?_
  refine g_get (q := 16) C hcl_X5 1 (by decide) qw_685 rfl dX5_become_13 (by exact hx0) rfl rfl ?_
  refine g_callS2V (q := 19) C hy_X5_copy (c_X5_copy Γ l (hA0.at0 (c := o2) (by omega)) (hA0.at0 (c := o) (by omega))) qw_857 ⟨Nat.le_of_ble_eq_true rfl, Nat.le_of_ble_eq_true rfl⟩ (Nat.le_of_ble_eq_true rfl) rfl dX5_become_16 ⟨rfl, rfl⟩ ⟨Nat.zero_le _, Nat.zero_le _⟩ rfl (fun M_16 p_16 => ?_)
  subst p_16
  obtain ⟨hA1, hO1, hk1⟩ := hA0.st2 hO0 (c := o) (by omega) _
  have hx1 := hk1 _ _ _ hx0
  have hy1 := hk1 _ _ _ hy0
  refine g_aload_n (q := 20) C dX5_become_19 rfl (by first | exact hRef_r _ | exact hRef_o _ | exact hRef_n) rfl ?_
  refine g_get (q := 23) C hcl_X5 2 (by decide) qw_687 rfl dX5_become_20 (by exact hy1) rfl rfl ?_
  refine g_aload_n (q := 24) C dX5_become_23 rfl (by first | exact hRef_r _ | exact hRef_o _ | exact hRef_n) rfl ?_
  refine g_get (q := 27) C hcl_X5 2 (by decide) qw_687 rfl dX5_become_24 (by exact hx1) rfl rfl ?_
  refine g_callS2V (q := 30) C hy_X5_copy (c_X5_copy Γ l (hA1.at0 (c := o2 + 1) (by omega)) (hA1.at0 (c := o + 1) (by omega))) qw_857 ⟨Nat.le_of_ble_eq_true rfl, Nat.le_of_ble_eq_true rfl⟩ (Nat.le_of_ble_eq_true rfl) rfl dX5_become_27 ⟨rfl, rfl⟩ ⟨Nat.zero_le _, Nat.zero_le _⟩ rfl (fun M_27 p_27 => ?_)
  subst p_27
  obtain ⟨hA2, hO2, hk2⟩ := hA1.st2 hO1 (c := o + 1) (by omega) _
  have hx2 := hk2 _ _ _ hx1
  have hy2 := hk2 _ _ _ hy1
  refine g_aload_n (q := 31) C dX5_become_30 rfl (by first | exact hRef_r _ | exact hRef_o _ | exact hRef_n) rfl ?_
  refine g_get (q := 34) C hcl_X5 3 (by decide) qw_689 rfl dX5_become_31 (by exact hy2) rfl rfl ?_
  refine g_aload_n (q := 35) C dX5_become_34 rfl (by first | exact hRef_r _ | exact hRef_o _ | exact hRef_n) rfl ?_
  refine g_get (q := 38) C hcl_X5 3 (by decide) qw_689 rfl dX5_become_35 (by exact hx2) rfl rfl ?_
  refine g_callS2V (q := 41) C hy_X5_copy (c_X5_copy Γ l (hA2.at0 (c := o2 + 2) (by omega)) (hA2.at0 (c := o + 2) (by omega))) qw_857 ⟨Nat.le_of_ble_eq_true rfl, Nat.le_of_ble_eq_true rfl⟩ (Nat.le_of_ble_eq_true rfl) rfl dX5_become_38 ⟨rfl, rfl⟩ ⟨Nat.zero_le _, Nat.zero_le _⟩ rfl (fun M_38 p_38 => ?_)
  subst p_38
  obtain ⟨hA3, hO3, hk3⟩ := hA2.st2 hO2 (c := o + 2) (by omega) _
  have hx3 := hk3 _ _ _ hx2
  have hy3 := hk3 _ _ _ hy2
  refine g_aload_n (q := 42) C dX5_become_41 rfl (by first | exact hRef_r _ | exact hRef_o _ | exact hRef_n) rfl ?_
  refine g_get (q := 45) C hcl_X5 4 (by decide) qw_691 rfl dX5_become_42 (by exact hy3) rfl rfl ?_
  refine g_aload_n (q := 46) C dX5_become_45 rfl (by first | exact hRef_r _ | exact hRef_o _ | exact hRef_n) rfl ?_
  refine g_get (q := 49) C hcl_X5 4 (by decide) qw_691 rfl dX5_become_46 (by exact hx3) rfl rfl ?_
  refine g_callS2V (q := 52) C hy_X5_copy (c_X5_copy Γ l (hA3.at0 (c := o2 + 3) (by omega)) (hA3.at0 (c := o + 3) (by omega))) qw_857 ⟨Nat.le_of_ble_eq_true rfl, Nat.le_of_ble_eq_true rfl⟩ (Nat.le_of_ble_eq_true rfl) rfl dX5_become_49 ⟨rfl, rfl⟩ ⟨Nat.zero_le _, Nat.zero_le _⟩ rfl (fun M_49 p_49 => ?_)
  subst p_49
  obtain ⟨hA4, hO4, hk4⟩ := hA3.st2 hO3 (c := o + 3) (by omega) _
  have hx4 := hk4 _ _ _ hx3
  have hy4 := hk4 _ _ _ hy3
  refine g_aload_n (q := 53) C dX5_become_52 rfl (by first | exact hRef_r _ | exact hRef_o _ | exact hRef_n) rfl ?_
  refine g_get (q := 56) C hcl_X5 5 (by decide) qw_693 rfl dX5_become_53 (by exact hy4) rfl rfl ?_
  refine g_aload_n (q := 57) C dX5_become_56 rfl (by first | exact hRef_r _ | exact hRef_o _ | exact hRef_n) rfl ?_
  refine g_get (q := 60) C hcl_X5 5 (by decide) qw_693 rfl dX5_become_57 (by exact hx4) rfl rfl ?_
  refine g_callS2V (q := 63) C hy_X5_copy (c_X5_copy Γ l (hA4.at0 (c := o2 + 4) (by omega)) (hA4.at0 (c := o + 4) (by omega))) qw_857 ⟨Nat.le_of_ble_eq_true rfl, Nat.le_of_ble_eq_true rfl⟩ (Nat.le_of_ble_eq_true rfl) rfl dX5_become_60 ⟨rfl, rfl⟩ ⟨Nat.zero_le _, Nat.zero_le _⟩ rfl (fun M_60 p_60 => ?_)
  subst p_60
  obtain ⟨hA5, hO5, hk5⟩ := hA4.st2 hO4 (c := o + 4) (by omega) _
  have hx5 := hk5 _ _ _ hx4
  have hy5 := hk5 _ _ _ hy4
  exact g_vret C dX5_become_63 (⟨_, hA5, fun c hc => fu5_n hc, fun i hi => by rw [rG_fu hd]; show _ = (G o2 i, G (o2 + 1) i, G (o2 + 2) i, G (o2 + 3) i, G (o2 + 4) i); simp only [va_cpy, Nat.zero_le, Nat.zero_add, Nat.sub_zero, hi, and_self, if_true]; rw [fu4_n (by omega), fu3_n (by omega), fu2_n (by omega), fu1_n (by omega)], hx5, fun a ha => (hO5 a (fun q => ha (Or.inl q))).trans (hU_n (fun q => ha (Or.inr q)))⟩) (Nat.zero_le _) (Nat.zero_le _)
theorem rG_la {G : Nat → Nat → Int32} {o f t i : Nat} {G1 : Nat → Nat → Int32} (h0 : G1 o i = if i = f then -1 else if i = t then G o f else G o i) (h1 : ∀ c, 1 ≤ c → c ≤ 4 → G1 (o + c) i = if i = t then G (o + c) f else G (o + c) i) (hft : f ≠ t) : rG G1 o i = laR (rG G o) f t i := by
  show (G1 o i, G1 (o + 1) i, G1 (o + 2) i, G1 (o + 3) i, G1 (o + 4) i) = _
  rw [h0, h1 1 (by omega) (by omega), h1 2 (by omega) (by omega), h1 3 (by omega) (by omega), h1 4 (by omega) (by omega)]
  unfold laR
  by_cases e1 : i = f
  · subst e1; simp [hft]; rfl
  · by_cases e2 : i = t
    · subst e2; simp [e1]; rfl
    · simp [e1, e2]; rfl
set_option maxRecDepth 100000 in
set_option maxHeartbeats 4000000 in
theorem c_X5_lay (Γ : hGam) (l : Launch) {M : hM} {x o : Nat} {ad : Nat → Nat} {G : Nat → Nat → Int32} {d9 : Int32} {f t : Nat}  (h : mdA Γ M ad G) (hs : M x = some (true, oSt ad o d9)) (ho : o + 4 < 15) (hf : f < 40) (ht : t < 40) (hft : f ≠ t) : hMet Γ l yX5_lay cX5_lay 3 none rm_X5_lay [.ref x, .int (nI f), .int (nI t)] M (hpV (fun M1 => ∃ G1, mdA Γ M1 ad G1 ∧ (∀ c, c < o ∨ o + 5 ≤ c → G1 c = G c) ∧ (∀ i, i < 40 → rG G1 o i = laR (rG G o) f t i) ∧ hOff M M1 (onAd ad))) := by
  have hA0 := h
  have hx0 := hs
  have hO0 : hOff M M (onAd ad) := hOff.rf
  refine hMet_of (by decide +kernel) (Nat.le_of_ble_eq_true rfl) (hCat_cons rfl (hCat_cons rfl (hCat_cons rfl hCat_nil))) (fun k9 C => ?_)
  show hG _ _ _ _ _ _ _ _ [some (.ref x), some (.int (nI f)), some (.int (nI t))] _
  refine g_aload_n (q := 1) C dX5_lay_0 rfl (by first | exact hRef_r _ | exact hRef_o _ | exact hRef_n) rfl ?_
  refine g_get (q := 4) C hcl_X5 1 (by decide) qw_685 rfl dX5_lay_1 (by exact hx0) rfl rfl ?_
  refine g_iload_n (q := 5) C dX5_lay_4 rfl rfl ?_
  refine g_aload_n (q := 6) C dX5_lay_5 rfl (by first | exact hRef_r _ | exact hRef_o _ | exact hRef_n) rfl ?_
  refine g_get (q := 9) C hcl_X5 1 (by decide) qw_685 rfl dX5_lay_6 (by exact hx0) rfl rfl ?_
  refine g_iload_n (q := 10) C dX5_lay_9 rfl rfl ?_
  refine g_iald (q := 11) C f rfl hf (by decide) dX5_lay_10 (hA0.at0 (c := o) (by omega)) rfl ?_
  refine g_iast (q := 12) C t rfl ht (by decide) dX5_lay_11 (hA0.at0 (c := o) (by omega)) rfl ?_
  obtain ⟨hA1, hO1, hk1⟩ := hA0.st2 hO0 (c := o) (by omega) _
  have hx1 := hk1 _ _ _ hx0
  refine g_aload_n (q := 13) C dX5_lay_12 rfl (by first | exact hRef_r _ | exact hRef_o _ | exact hRef_n) rfl ?_
  refine g_get (q := 16) C hcl_X5 2 (by decide) qw_687 rfl dX5_lay_13 (by exact hx1) rfl rfl ?_
  refine g_iload_n (q := 17) C dX5_lay_16 rfl rfl ?_
  refine g_aload_n (q := 18) C dX5_lay_17 rfl (by first | exact hRef_r _ | exact hRef_o _ | exact hRef_n) rfl ?_
  refine g_get (q := 21) C hcl_X5 2 (by decide) qw_687 rfl dX5_lay_18 (by exact hx1) rfl rfl ?_
  refine g_iload_n (q := 22) C dX5_lay_21 rfl rfl ?_
  refine g_iald (q := 23) C f rfl hf (by decide) dX5_lay_22 (hA1.at0 (c := o + 1) (by omega)) rfl ?_
  refine g_iast (q := 24) C t rfl ht (by decide) dX5_lay_23 (hA1.at0 (c := o + 1) (by omega)) rfl ?_
  obtain ⟨hA2, hO2, hk2⟩ := hA1.st2 hO1 (c := o + 1) (by omega) _
  have hx2 := hk2 _ _ _ hx1
  refine g_aload_n (q := 25) C dX5_lay_24 rfl (by first | exact hRef_r _ | exact hRef_o _ | exact hRef_n) rfl ?_
  refine g_get (q := 28) C hcl_X5 3 (by decide) qw_689 rfl dX5_lay_25 (by exact hx2) rfl rfl ?_
  refine g_iload_n (q := 29) C dX5_lay_28 rfl rfl ?_
  refine g_aload_n (q := 30) C dX5_lay_29 rfl (by first | exact hRef_r _ | exact hRef_o _ | exact hRef_n) rfl ?_
  refine g_get (q := 33) C hcl_X5 3 (by decide) qw_689 rfl dX5_lay_30 (by exact hx2) rfl rfl ?_
  refine g_iload_n (q := 34) C dX5_lay_33 rfl rfl ?_
  refine g_iald (q := 35) C f rfl hf (by decide) dX5_lay_34 (hA2.at0 (c := o + 2) (by omega)) rfl ?_
  refine g_iast (q := 36) C t rfl ht (by decide) dX5_lay_35 (hA2.at0 (c := o + 2) (by omega)) rfl ?_
  obtain ⟨hA3, hO3, hk3⟩ := hA2.st2 hO2 (c := o + 2) (by omega) _
  have hx3 := hk3 _ _ _ hx2
  refine g_aload_n (q := 37) C dX5_lay_36 rfl (by first | exact hRef_r _ | exact hRef_o _ | exact hRef_n) rfl ?_
  refine g_get (q := 40) C hcl_X5 4 (by decide) qw_691 rfl dX5_lay_37 (by exact hx3) rfl rfl ?_
  refine g_iload_n (q := 41) C dX5_lay_40 rfl rfl ?_
  refine g_aload_n (q := 42) C dX5_lay_41 rfl (by first | exact hRef_r _ | exact hRef_o _ | exact hRef_n) rfl ?_
  refine g_get (q := 45) C hcl_X5 4 (by decide) qw_691 rfl dX5_lay_42 (by exact hx3) rfl rfl ?_
  refine g_iload_n (q := 46) C dX5_lay_45 rfl rfl ?_
  refine g_iald (q := 47) C f rfl hf (by decide) dX5_lay_46 (hA3.at0 (c := o + 3) (by omega)) rfl ?_
  refine g_iast (q := 48) C t rfl ht (by decide) dX5_lay_47 (hA3.at0 (c := o + 3) (by omega)) rfl ?_
  obtain ⟨hA4, hO4, hk4⟩ := hA3.st2 hO3 (c := o + 3) (by omega) _
  have hx4 := hk4 _ _ _ hx3
  refine g_aload_n (q := 49) C dX5_lay_48 rfl (by first | exact hRef_r _ | exact hRef_o _ | exact hRef_n) rfl ?_
  refine g_get (q := 52) C hcl_X5 5 (by decide) qw_693 rfl dX5_lay_49 (by exact hx4) rfl rfl ?_
  refine g_iload_n (q := 53) C dX5_lay_52 rfl rfl ?_
  refine g_aload_n (q := 54) C dX5_lay_53 rfl (by first | exact hRef_r _ | exact hRef_o _ | exact hRef_n) rfl ?_
  refine g_get (q := 57) C hcl_X5 5 (by decide) qw_693 rfl dX5_lay_54 (by exact hx4) rfl rfl ?_
  refine g_iload_n (q := 58) C dX5_lay_57 rfl rfl ?_
  refine g_iald (q := 59) C f rfl hf (by decide) dX5_lay_58 (hA4.at0 (c := o + 4) (by omega)) rfl ?_
  refine g_iast (q := 60) C t rfl ht (by decide) dX5_lay_59 (hA4.at0 (c := o + 4) (by omega)) rfl ?_
  obtain ⟨hA5, hO5, hk5⟩ := hA4.st2 hO4 (c := o + 4) (by omega) _
  have hx5 := hk5 _ _ _ hx4
  refine g_aload_n (q := 61) C dX5_lay_60 rfl (by first | exact hRef_r _ | exact hRef_o _ | exact hRef_n) rfl ?_
  refine g_get (q := 64) C hcl_X5 1 (by decide) qw_685 rfl dX5_lay_61 (by exact hx5) rfl rfl ?_
  refine g_iload_n (q := 65) C dX5_lay_64 rfl rfl ?_
  refine g_iconst (q := 66) (-1) C dX5_lay_65 (by decide) rfl ?_
  refine g_iast (q := 67) C f rfl hf (by decide) dX5_lay_66 (hA5.at0 (c := o) (by omega)) rfl ?_
  obtain ⟨hA6, hO6, hk6⟩ := hA5.st2 hO5 (c := o) (by omega) _
  exact g_vret C dX5_lay_67 (⟨_, hA6, fun c hc => (fUp_n (by omega)).trans (fu5_n hc), fun i hi => rG_la (by rw [fUp_s]; by_cases e1 : i = f; (subst e1; rw [upd_s, if_pos rfl]); (rw [upd_n e1, if_neg e1, fUp_n (by omega), fUp_n (by omega), fUp_n (by omega), fUp_n (by omega), fUp_s]; rfl)) (fun c h1 h4 => by match c, h1, h4 with | 1, _, _ => (rw [fUp_n (show o + 1 ≠ o by omega), fUp_n (show o + 1 ≠ o + 4 by omega), fUp_n (show o + 1 ≠ o + 3 by omega), fUp_n (show o + 1 ≠ o + 2 by omega), fUp_s]; show (if i = t then _ else _) = _; rw [fUp_n (show o + 1 ≠ o by omega)]) | 2, _, _ => (rw [fUp_n (show o + 2 ≠ o by omega), fUp_n (show o + 2 ≠ o + 4 by omega), fUp_n (show o + 2 ≠ o + 3 by omega), fUp_s]; show (if i = t then _ else _) = _; rw [fUp_n (show o + 2 ≠ o + 1 by omega), fUp_n (show o + 2 ≠ o by omega)]) | 3, _, _ => (rw [fUp_n (show o + 3 ≠ o by omega), fUp_n (show o + 3 ≠ o + 4 by omega), fUp_s]; show (if i = t then _ else _) = _; rw [fUp_n (show o + 3 ≠ o + 2 by omega), fUp_n (show o + 3 ≠ o + 1 by omega), fUp_n (show o + 3 ≠ o by omega)]) | 4, _, _ => (rw [fUp_n (show o + 4 ≠ o by omega), fUp_s]; show (if i = t then _ else _) = _; rw [fUp_n (show o + 4 ≠ o + 3 by omega), fUp_n (show o + 4 ≠ o + 2 by omega), fUp_n (show o + 4 ≠ o + 1 by omega), fUp_n (show o + 4 ≠ o by omega)])) hft, hO6⟩) (Nat.zero_le _) (Nat.zero_le _)
set_option maxRecDepth 100000 in
set_option maxHeartbeats 4000000 in
theorem c_X5_turn (Γ : hGam) (l : Launch) {M : hM} {x o : Nat} {ad : Nat → Nat} {G : Nat → Nat → Int32} {d9 : Int32} {s : Nat}  (h : mdA Γ M ad G) (hs : M x = some (true, oSt ad o d9)) (ho : o + 4 < 15) (hs5 : s < 5) : hMet Γ l yX5_turn cX5_turn 4 none rm_X5_turn [.ref x, .int (nI s)] M (hpV (fun M1 => ∃ G1, mdA Γ M1 ad G1 ∧ (∀ c, c < o ∨ o + 5 ≤ c → G1 c = G c) ∧ (∀ i, i < 40 → rG G1 o i = if i / 8 = s then rSwp (rG G o i) else rG G o i) ∧ hOff M M1 (onAd ad))) := by
  refine hMet_of (by decide +kernel) (Nat.le_of_ble_eq_true rfl) (hCat_cons rfl (hCat_cons rfl hCat_nil)) (fun k9 C => ?_)
  show hG _ _ _ _ _ _ _ _ [some (.ref x), some (.int (nI s)), none, none] _
  refine g_bipush (q := 2) (8) C dX5_turn_0 (by decide) rfl ?_
  refine g_iload_n (q := 3) C dX5_turn_2 rfl rfl ?_
  refine g_imul (q := 4) C dX5_turn_3 rfl ?_
  refine g_istore2 (q := 5) C dX5_turn_4 (by first | rfl | exact hNw_rf _) rfl ?_
  rw [nI_mul8]
  refine h_loopU (P := fun j => ∀ (M1 : hM) (G1 : Nat → Nat → Int32) (o3 : Option Value), mdA Γ M1 ad G1 → M1 x = some (true, oSt ad o d9) → hOff M M1 (onAd ad) → (∀ c, c < o ∨ o + 5 ≤ c → G1 c = G c) → (∀ i, i < 40 → rG G1 o i = if i / 8 = s ∧ i % 8 < j then rSwp (rG G o i) else rG G o i) → hG Γ k9 _ _ M1 0 0 5 [some (.ref x), some (.int (nI s)), some (.int (nI (8 * s + j))), o3] []) (N := 8) (fun j hj ih => ?_) 0 (Nat.zero_le _) M G none h hs hOff.rf (fun _ _ => rfl) (fun i _ => by rw [if_neg (by omega)])
  intro M1 G1 o3 hA1 hx1 hO1 hG1 hV1
  refine g_iload_n (q := 6) C dX5_turn_5 rfl rfl ?_
  refine g_bipush (q := 8) (8) C dX5_turn_6 (by decide) rfl ?_
  refine g_iload_n (q := 9) C dX5_turn_8 rfl rfl ?_
  refine g_iconst (q := 10) (1) C dX5_turn_9 (by decide) rfl ?_
  refine g_iadd (q := 11) C dX5_turn_10 rfl ?_
  refine g_imul (q := 12) C dX5_turn_11 rfl ?_
  rw [nI_1, nI_mul8]
  refine g_icmp_ge (t := 47) (q := 15) C dX5_turn_12 (by decide) rfl (fun c_12 => ?_) (fun c_12 => ?_)
  · skip
    have hN := nI_ge_eq (N := 8 * (s + 1)) (j := 8 * s + j) (by omega) (by omega) c_12
    have hN8 : j = 8 := by omega
    subst hN8
    exact g_vret C dX5_turn_47 (⟨_, hA1, hG1, fun i hi => (hV1 i hi).trans (ifc9 (show (i / 8 = s ∧ i % 8 < 8) ↔ (i / 8 = s) from ⟨fun q => q.1, fun q => ⟨q, by omega⟩⟩)), hO1⟩) (Nat.zero_le _) (Nat.zero_le _)
  · skip
    have hlt9 := nI_nge_lt (N := 8 * (s + 1)) (j := 8 * s + j) (by omega) (by omega) c_12
    have hlt : j < 8 := by omega
    refine g_aload_n (q := 16) C dX5_turn_15 rfl (by first | exact hRef_r _ | exact hRef_o _ | exact hRef_n) rfl ?_
    refine g_get (q := 19) C hcl_X5 2 (by decide) qw_687 rfl dX5_turn_16 (by exact hx1) rfl rfl ?_
    refine g_iload_n (q := 20) C dX5_turn_19 rfl rfl ?_
    refine g_iald (q := 21) C (8 * s + j) rfl (by omega) (by decide) dX5_turn_20 (hA1.at0 (c := o + 1) (by omega)) rfl ?_
    refine g_istore3 (q := 22) C dX5_turn_21 (by first | rfl | exact hNw_rf _) rfl ?_
    refine g_aload_n (q := 23) C dX5_turn_22 rfl (by first | exact hRef_r _ | exact hRef_o _ | exact hRef_n) rfl ?_
    refine g_get (q := 26) C hcl_X5 2 (by decide) qw_687 rfl dX5_turn_23 (by exact hx1) rfl rfl ?_
    refine g_iload_n (q := 27) C dX5_turn_26 rfl rfl ?_
    refine g_aload_n (q := 28) C dX5_turn_27 rfl (by first | exact hRef_r _ | exact hRef_o _ | exact hRef_n) rfl ?_
    refine g_get (q := 31) C hcl_X5 3 (by decide) qw_689 rfl dX5_turn_28 (by exact hx1) rfl rfl ?_
    refine g_iload_n (q := 32) C dX5_turn_31 rfl rfl ?_
    refine g_iald (q := 33) C (8 * s + j) rfl (by omega) (by decide) dX5_turn_32 (hA1.at0 (c := o + 2) (by omega)) rfl ?_
    refine g_iast (q := 34) C (8 * s + j) rfl (by omega) (by decide) dX5_turn_33 (hA1.at0 (c := o + 1) (by omega)) rfl ?_
    obtain ⟨hB1, hP1, hkk1⟩ := hA1.st2 hO1 (c := o + 1) (by omega) _
    have hy1 := hkk1 _ _ _ hx1
    refine g_aload_n (q := 35) C dX5_turn_34 rfl (by first | exact hRef_r _ | exact hRef_o _ | exact hRef_n) rfl ?_
    refine g_get (q := 38) C hcl_X5 3 (by decide) qw_689 rfl dX5_turn_35 (by exact hy1) rfl rfl ?_
    refine g_iload_n (q := 39) C dX5_turn_38 rfl rfl ?_
    refine g_iload_n (q := 40) C dX5_turn_39 rfl rfl ?_
    refine g_iast (q := 41) C (8 * s + j) rfl (by omega) (by decide) dX5_turn_40 (hB1.at0 (c := o + 2) (by omega)) rfl ?_
    obtain ⟨hB2, hP2, hkk2⟩ := hB1.st2 hP1 (c := o + 2) (by omega) _
    have hy2 := hkk2 _ _ _ hy1
    refine g_iinc2 (q := 44) (1) C dX5_turn_41 (by decide) (by first | rfl | exact hNw_rf _) rfl ?_
    refine g_goto (t := 5) C dX5_turn_44 (by decide) ?_
    rw [nI_1]
    refine ih hlt _ _ _ hB2 hy2 hP2 (fun c hc => ?_) (fun i hi => ?_)
    · rw [fUp_n (by omega), fUp_n (by omega)]; exact hG1 c hc
    · by_cases e1 : i = 8 * s + j
      · subst e1
        rw [if_pos ⟨by omega, by omega⟩]
        have e2 := hV1 _ hi
        rw [if_neg (by omega)] at e2
        rw [← e2]
        unfold rG rSwp
        simp only
        rw [fUp_n (show o ≠ o + 2 by omega), fUp_n (show o ≠ o + 1 by omega), fUp_n (show o + 1 ≠ o + 2 by omega), fUp_s, upd_s, fUp_s, upd_s, fUp_n (show o + 3 ≠ o + 2 by omega), fUp_n (show o + 3 ≠ o + 1 by omega), fUp_n (show o + 4 ≠ o + 2 by omega), fUp_n (show o + 4 ≠ o + 1 by omega)]
      · have e2 := hV1 i hi
        refine Eq.trans ?_ (ifc9 (show (i / 8 = s ∧ i % 8 < j) ↔ (i / 8 = s ∧ i % 8 < j + 1) from ⟨fun q => ⟨q.1, by omega⟩, fun q => ⟨q.1, by omega⟩⟩))
        rw [← e2]
        unfold rG
        rw [fUp_n (show o ≠ o + 2 by omega), fUp_n (show o ≠ o + 1 by omega), fUp_n (show o + 1 ≠ o + 2 by omega), fUp_s, upd_n e1, fUp_s, upd_n e1, fUp_n (show o + 2 ≠ o + 1 by omega), fUp_n (show o + 3 ≠ o + 2 by omega), fUp_n (show o + 3 ≠ o + 1 by omega), fUp_n (show o + 4 ≠ o + 2 by omega), fUp_n (show o + 4 ≠ o + 1 by omega)]
