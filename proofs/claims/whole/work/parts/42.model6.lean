set_option maxRecDepth 100000 in
set_option maxHeartbeats 4000000 in
theorem c_X6_daysOn (Γ : hGam) (l : Launch) {M : hM} {m fo9 od s ah : Nat} {ad : Nat → Nat} {G : Nat → Nat → Int32} {th wi hs os gi : Int32} {o n : Nat} {B : Nat → hB} {eH lH : Nat → Int32} {d9 dd : Int32} {dn : Nat} (dmp : Int32) (mM : M m = some (true, oModel th wi hs (some (ad 15)) (some (ad 16)) os (some (ad 17)) (some (ad 18)) (some (ad 19)) (some (ad 20)) gi (some s) (some ah) (some od))) (mA : mdA Γ M ad G) (hf : M fo9 = some (true, oSt ad o d9)) (hd : M od = some (true, oSt ad 10 dd)) (hne : fo9 ≠ od) (ho : o = 0 ∨ o = 5) (hH : ∀ i, i < n → G 15 i = eH i ∧ G 16 i = lH i) (hV : stV G o B) (hB : ∀ i, i < 40 → ∀ j, (B i).1 = some j → j < n) (hn : n ≤ 6) (hdn : dn < 1000) : hMet Γ l yX6_daysOn cX6_daysOn 5 none rm_X6_daysOn [.ref m, .ref fo9, .int (nI dn), .int dmp] M (hpV (fun M1 => ∃ G1, mdA Γ M1 ad G1 ∧ (∀ c, 15 ≤ c → G1 c = G c) ∧ (∀ c, c < 10 → (c < o ∨ o + 5 ≤ c) → G1 c = G c) ∧ stV G1 o (vDays eH lH wi dmp B dn) ∧ M1 fo9 = some (true, oSt ad o (d9 + nI dn)) ∧ (∃ dd1, M1 od = some (true, oSt ad 10 dd1)) ∧ hOff M M1 (fun a => onAd ad a ∨ a = fo9 ∨ a = od))) := by
  refine hMet_of (by decide +kernel) (Nat.le_of_ble_eq_true rfl) (hCat_cons rfl (hCat_cons rfl (hCat_cons rfl (hCat_cons rfl hCat_nil)))) (fun k9 C => ?_)
  show hG _ _ _ _ _ _ _ _ [some (.ref m), some (.ref fo9), some (.int (nI dn)), some (.int dmp), none] _
  refine g_iconst (q := 1) (0) C dX6_daysOn_0 (by decide) rfl ?_
  refine g_istore4 (q := 3) C dX6_daysOn_1 (by first | rfl | exact hNw_rf _) rfl ?_
  refine h_loopU (P := fun i => ∀ (M2 : hM) (G2 : Nat → Nat → Int32) (dd2 : Int32), M2 m = some (true, oModel th wi hs (some (ad 15)) (some (ad 16)) os (some (ad 17)) (some (ad 18)) (some (ad 19)) (some (ad 20)) gi (some s) (some ah) (some od)) → mdA Γ M2 ad G2 → M2 fo9 = some (true, oSt ad o (d9 + nI i)) → M2 od = some (true, oSt ad 10 dd2) → hOff M M2 (fun a => onAd ad a ∨ a = fo9 ∨ a = od) → (∀ c, 15 ≤ c → G2 c = G c) → (∀ c, c < 10 → (c < o ∨ o + 5 ≤ c) → G2 c = G c) → stV G2 o (vDays eH lH wi dmp B i) → hG Γ k9 _ _ M2 0 0 3 [some (.ref m), some (.ref fo9), some (.int (nI dn)), some (.int dmp), some (.int (nI i))] []) (N := dn) (fun i hi ih => ?_) 0 (Nat.zero_le _) M G dd mM mA (by rw [show d9 + nI 0 = d9 from Int32.add_zero d9]; exact hf) hd hOff.rf (fun _ _ => rfl) (fun _ _ _ => rfl) hV
  intro M2 G2 dd2 hm2 hA2 hf2 hd2 hO2 hH2 hL2 hV2
  refine g_iload (q := 5) C dX6_daysOn_3 rfl rfl ?_
  refine g_iload_n (q := 6) C dX6_daysOn_5 rfl rfl ?_
  refine g_icmp_ge (t := 21) (q := 9) C dX6_daysOn_6 (by decide) rfl (fun c_6 => ?_) (fun c_6 => ?_)
  · skip
    have hN := nI_ge_eq hi (by omega) c_6
    subst hN
    exact g_vret C dX6_daysOn_21 (⟨G2, hA2, hH2, hL2, hV2, hf2, ⟨dd2, hd2⟩, hO2⟩) (Nat.zero_le _) (Nat.zero_le _)
  · skip
    have hlt := nI_nge_lt hi (by omega) c_6
    refine g_aload_n (q := 10) C dX6_daysOn_9 rfl (by first | exact hRef_r _ | exact hRef_o _ | exact hRef_n) rfl ?_
    refine g_aload_n (q := 11) C dX6_daysOn_10 rfl (by first | exact hRef_r _ | exact hRef_o _ | exact hRef_n) rfl ?_
    refine g_iload_n (q := 12) C dX6_daysOn_11 rfl rfl ?_
    refine g_callV2V (q := 15) C hy_X6_dayOn (c_X6_dayOn Γ l dmp hm2 hA2 hf2 hd2 hne ho (fun i hi => by rw [hH2 15 (by decide), hH2 16 (by decide)]; exact hH i hi) hV2 (vDays_lt hB i) hn) qw_849 (by exact hm2) rfl ⟨Nat.le_of_ble_eq_true rfl, Nat.le_of_ble_eq_true rfl⟩ (Nat.le_of_ble_eq_true rfl) rfl dX6_daysOn_12 ⟨rfl, rfl⟩ ⟨Nat.zero_le _, Nat.zero_le _⟩ rfl (fun M_12 p_12 => ?_)
    obtain ⟨G3, hA3, hH3, hL3, hV3, hf3, hd3, hO3⟩ := p_12
    rw [add_n1] at hf3
    have hm3 := (hO3 m (fun q => by rcases q with ⟨c, hc, q⟩ | q | q; exact hA2.ne hc hm2 q; (rw [q, hf2] at hm2; cases hm2); (rw [q, hd2] at hm2; cases hm2))).trans hm2
    refine g_iinc4 (q := 18) (1) C dX6_daysOn_15 (by decide) (by first | rfl | exact hNw_rf _) rfl ?_
    refine g_goto (t := 3) C dX6_daysOn_18 (by decide) ?_
    rw [nI_1]
    refine ih hlt _ _ _ hm3 hA3 hf3 hd3 (hO2.tr hO3) (fun c hc => (hH3 c hc).trans (hH2 c hc)) (fun c hc hc2 => (hL3 c hc hc2).trans (hL2 c hc hc2)) (by rw [vDays_s]; exact hV3)
