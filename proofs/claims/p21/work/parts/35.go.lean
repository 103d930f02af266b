/-! ===== a day of the simulation ===== -/
def noF8 : kK → Bool := fun n => !(n.1 == 10 && n.2 == 8)
theorem simK_all : simK (fun _ => true) := ⟨rfl, fun n _ => rfl, rfl, rfl, rfl⟩
theorem simK_F8 : simK noF8 := ⟨rfl, fun n _ => rfl, rfl, rfl, rfl⟩
def sGo (S : hS) (dmp : Int32) : hS := (S.1, S.2.1, vDay (sE S) (sL S) (sWin S) dmp (sB S), sWin S, sDay S + 1)
/-- what the first round has laid down, of the hooks below i -/
def frP (Γ : hGam) (M : hM) (fb nb : Nat) (S : hS) (dmp : Int32) (i : Nat) : Prop :=
  (∀ a, a < 5 → ∃ F : Nat → Int32, M (fb + 1 + a) = some (true, aI Γ 8 F) ∧ ∀ h j, h < 8 → a * 8 + h < i → (sB S (a * 8 + h)).1 = some j → F h = sFo (sE S j) a (sWin S) dmp (wets (sB S) (a * 8 + h))) ∧
  (∀ a, a < 5 → ∃ F : Nat → Int32, M (nb + 1 + a) = some (true, aZ Γ 8 F) ∧ ∀ h j, h < 8 → a * 8 + h < i → (sB S (a * 8 + h)).1 = some j → F h = bI (nSp (sB S) (a * 8 + h)))
theorem frP.skip {Γ : hGam} {M : hM} {fb nb : Nat} {S : hS} {dmp : Int32} {i : Nat} (h : frP Γ M fb nb S dmp i) (hn : (sB S i).1 = none) : frP Γ M fb nb S dmp (i + 1) := by
  refine ⟨fun a ha => ?_, fun a ha => ?_⟩
  · obtain ⟨F, h1, h2⟩ := h.1 a ha
    refine ⟨F, h1, fun c j hc hi hj => ?_⟩
    by_cases q : a * 8 + c = i
    · rw [q, hn] at hj; cases hj
    · exact h2 c j hc (by omega) hj
  · obtain ⟨F, h1, h2⟩ := h.2 a ha
    refine ⟨F, h1, fun c j hc hi hj => ?_⟩
    by_cases q : a * 8 + c = i
    · rw [q, hn] at hj; cases hj
    · exact h2 c j hc (by omega) hj
theorem frP.step {Γ : hGam} {M : hM} {fb nb : Nat} {S : hS} {dmp : Int32} {t c : Nat} (h : frP Γ M fb nb S dmp (t * 8 + c)) (ht : t < 5) (hc : c < 8) (hne : ∀ a b, a < 5 → b < 5 → fb + 1 + a ≠ nb + 1 + b) {F N : Nat → Int32} (hF : M (fb + 1 + t) = some (true, aI Γ 8 F)) (hN : M (nb + 1 + t) = some (true, aZ Γ 8 N)) {j : Nat} (hj : (sB S (t * 8 + c)).1 = some j) {x y : Int32} (hx : x = sFo (sE S j) t (sWin S) dmp (wets (sB S) (t * 8 + c))) (hy : y = bI (nSp (sB S) (t * 8 + c)))
    (hF2 : ∀ h j, h < 8 → t * 8 + h < t * 8 + c → (sB S (t * 8 + h)).1 = some j → F h = sFo (sE S j) t (sWin S) dmp (wets (sB S) (t * 8 + h))) (hN2 : ∀ h j, h < 8 → t * 8 + h < t * 8 + c → (sB S (t * 8 + h)).1 = some j → N h = bI (nSp (sB S) (t * 8 + h))) :
    frP Γ (hU (hU M (fb + 1 + t) (aI Γ 8 (upd F c x))) (nb + 1 + t) (aZ Γ 8 (upd N c y))) fb nb S dmp (t * 8 + c + 1) := by
  refine ⟨fun a ha => ?_, fun a ha => ?_⟩
  · rw [hU_n (hne a t ha ht)]
    by_cases q : a = t
    · subst q
      refine ⟨_, hU_s _ _ _, fun h j2 hh hi hj2 => ?_⟩
      by_cases q2 : h = c
      · subst q2
        cases hj.symm.trans hj2
        rw [pk_us]; exact hx
      · rw [pk_un q2]; exact hF2 h j2 hh (by omega) hj2
    · obtain ⟨F2, h1, h2⟩ := h.1 a ha
      exact ⟨F2, (hU_n (fun z => q (by omega))).trans h1, fun h j2 hh hi hj2 => h2 h j2 hh (by omega) hj2⟩
  · by_cases q : a = t
    · subst q
      refine ⟨_, hU_s _ _ _, fun h j2 hh hi hj2 => ?_⟩
      by_cases q2 : h = c
      · subst q2; rw [pk_us]; exact hy
      · rw [pk_un q2]; exact hN2 h j2 hh (by omega) hj2
    · obtain ⟨F2, h1, h2⟩ := h.2 a ha
      exact ⟨F2, (hU_n (fun z => q (by omega))).trans ((hU_n (Ne.symm (hne t a ht ha))).trans h1), fun h j2 hh hi hj2 => h2 h j2 hh (by omega) hj2⟩
theorem frP.kp {Γ : hGam} {M M1 : hM} {fb nb : Nat} {S : hS} {dmp : Int32} {i : Nat} (h : frP Γ M fb nb S dmp i) {P : kK → Bool} (hk : hKp P M M1) (h8 : P (10, 8) = true) : frP Γ M1 fb nb S dmp i :=
  ⟨fun a ha => by
    obtain ⟨F, h1, h2⟩ := h.1 a ha
    exact ⟨F, hk _ _ _ h1 h8, h2⟩, fun a ha => by
    obtain ⟨F, h1, h2⟩ := h.2 a ha
    exact ⟨F, hk _ _ _ h1 h8, h2⟩⟩
theorem smB.congr {Γ : hGam} {M : hM} {bd : Nat → Option Nat} {B B1 : Nat → hB} (h : smB Γ M bd B) (he : ∀ i, i < 40 → B i = B1 i) : smB Γ M bd B1 :=
  ⟨fun i hi a ha => by rw [← he i hi]; exact h.1 i hi a ha, fun i hi ha => by rw [← he i hi]; exact h.2.1 i hi ha, h.2.2⟩
theorem vMix_40 {B1 B : Nat → hB} : ∀ i, i < 40 → vMix 40 B1 B i = B1 i := fun i hi => if_pos hi
theorem hKp.old {P : kK → Bool} {M M1 : hM} (h : hKp P M M1) {a : Nat} {e : va_E} (ha : M a = none) : hKp P M (hU M1 a e) := fun b w e' hb hp' => by
  have h1 := h b w e' hb hp'
  by_cases hba : b = a
  · subst hba; rw [ha] at hb; cases hb
  · rw [hU_n hba]; exact h1
set_option maxRecDepth 100000 in
set_option maxHeartbeats 4000000 in
theorem c_X5_go (Γ : hGam) (l : Launch) {M : hM} {x : Nat} {S : hS} {D d : Nat} (hS : smP Γ M x S) (hI : sI2 S D) (hd : d ≤ 9) : hMet Γ l yX5_go cX5_go 8 none rm_X5_go [.ref x, .int (nI d)] M (hpV (fun M1 => smP Γ M1 x (sGo S (nI d)) ∧ hKp noSim M M1)) := by
  obtain ⟨ha, oa, la, ob, rx, bd, hQ⟩ := hS
  obtain ⟨pX, pH, pO, pL, pB⟩ := id hQ
  obtain ⟨lf, pLf, pRow⟩ := pL.row
  have hn6 := hI.1.1
  have ho6 := hI.1.2
  obtain ⟨hf, pHa, pHr⟩ := id pH
  obtain ⟨wn, hwn, ewn⟩ := hI.2.2.1
  refine hMet_of (by decide +kernel) (Nat.le_of_ble_eq_true rfl) (hCat_cons rfl (hCat_cons rfl hCat_nil)) (fun k9 C => ?_)
  show hG _ _ _ _ _ _ _ _ [some (.ref x), some (.int (nI d)), none, none, none, none, none, none] _
  refine g_iconst (q := 1) (5) C dX5_go_0 (by decide) rfl ?_
  refine g_bipush (q := 3) (8) C dX5_go_1 (by decide) rfl ?_
  refine g_mna (q := 7) (N := 5) (K := 8) (ty := .int) (t1 := 4) (t2 := 0) (z0 := .inl (fun _ => 0)) C (by rw [sI]; exact qw_465) (C_aoaI C) (C.ts _ qw_476) (C.hk.2 4 _ rfl).2 (nm_I C) rfl rfl (by decide) (by decide) (by decide) rfl rfl (fun c => mna_I c 8) (by decide) (by decide) dX5_go_3 rfl (fun fb Mf e1 e2 m0 mr mo => ?_)
  refine g_astore2 (q := 8) C dX5_go_7 (by first | exact hRef_r _ | exact hRef_o _ | exact hRef_n) (by first | rfl | exact hNw_rf _) rfl ?_
  refine g_iconst (q := 9) (5) C dX5_go_8 (by decide) rfl ?_
  refine g_bipush (q := 11) (8) C dX5_go_9 (by decide) rfl ?_
  refine g_mna (q := 15) (N := 5) (K := 8) (ty := .boolean) (t1 := 6) (t2 := 1) (z0 := .inl (fun _ => 0)) C (by rw [sZ]; exact qw_467) (C_aoaZ C) (C.ts _ qw_477) (C.hk.2 6 _ rfl).2 (nm_Z C) rfl rfl (by decide) (by decide) (by decide) rfl rfl (fun c => mna_Z c 8) (by decide) (by decide) dX5_go_11 rfl (fun nb Mg e3 e4 n0 nr no => ?_)
  refine g_astore3 (q := 16) C dX5_go_15 (by first | exact hRef_r _ | exact hRef_o _ | exact hRef_n) (by first | rfl | exact hNw_rf _) rfl ?_
  have kMg : hKp (fun _ => true) M Mg := fun a w e h _ => no _ _ (mo _ _ h)
  have F0 : Mg fb = some (true, aR Γ 5 (fun a => if a < 5 then some (fb + 1 + a) else none)) := no _ _ m0
  have N0 : Mg nb = some (true, aRZ Γ 5 (fun a => if a < 5 then some (nb + 1 + a) else none)) := n0
  have hne : ∀ a b, a < 5 → b < 5 → fb + 1 + a ≠ nb + 1 + b := fun a b ha hb q => by have z := e4 b hb; rw [← q, mr a ha] at z; cases z
  have hnn : ∀ a, a < 5 → M (nb + 1 + a) = none := fun a ha => by
    cases z : M (nb + 1 + a) with
    | none => rfl
    | some y => have z2 := e4 a ha; rw [mo _ _ z] at z2; cases z2
  have fr0 : frP Γ Mg fb nb S (nI d) 0 := ⟨fun a ha => ⟨_, no _ _ (mr a ha), fun h j hh hi => absurd hi (Nat.not_lt_zero _)⟩, fun a ha => ⟨_, nr a ha, fun h j hh hi => absurd hi (Nat.not_lt_zero _)⟩⟩
  refine g_iconst (q := 17) (0) C dX5_go_16 (by decide) rfl ?_
  refine g_istore4 (q := 19) C dX5_go_17 (by first | rfl | exact hNw_rf _) rfl ?_
  refine h_loopU (P := fun t => ∀ (M2 : hM) (o5 o6 o7 : Option Value), hKp noF8 Mg M2 → hKp (fun _ => true) M M2 → frP Γ M2 fb nb S (nI d) (t * 8) → hG Γ k9 _ _ M2 12 90 19 [some (.ref x), some (.int (nI d)), some (.ref fb), some (.ref nb), some (.int (nI t)), o5, o6, o7] []) (N := 5) (fun t ht ih => ?_) 0 (Nat.zero_le _) Mg _ _ _ hKp.rf kMg fr0
  intro M2 o5 o6 o7 hk2 hkA hf2
  refine g_iload (q := 21) C dX5_go_19 rfl rfl ?_
  refine g_iconst (q := 22) (5) C dX5_go_21 (by decide) rfl ?_
  refine g_icmp_ge (t := 138) (q := 25) C dX5_go_22 (by decide) rfl (fun c_22 => ?_) (fun c_22 => ?_)
  · skip
    have hN := nI_ge_eq ht (by decide) c_22
    subst hN
    have hkM2 := hkA
    have hB2 : smB Γ M2 bd (sB S) := pB.kp hkM2 rfl
    refine g_iconst (q := 139) (0) C dX5_go_138 (by decide) rfl ?_
    refine g_istore4 (q := 141) C dX5_go_139 (by first | rfl | exact hNw_rf _) rfl ?_
    refine h_loopU (P := fun t => ∀ (M4 : hM) (o5 o6 o7 : Option Value), hKp noBun M2 M4 → smB Γ M4 bd (vMix (t * 8) (vDay (sE S) (sL S) (sWin S) (nI d) (sB S)) (sB S)) → hG Γ k9 _ _ M4 12 90 141 [some (.ref x), some (.int (nI d)), some (.ref fb), some (.ref nb), some (.int (nI t)), o5, o6, o7] []) (N := 5) (fun t htb ihb => ?_) 0 (Nat.zero_le _) M2 _ _ _ hKp.rf (by rw [Nat.zero_mul, vMix_0]; exact hB2)
    intro M4 o5c o6c o7c hk4 hB4
    refine g_iload (q := 143) C dX5_go_141 rfl rfl ?_
    refine g_iconst (q := 144) (5) C dX5_go_143 (by decide) rfl ?_
    refine g_icmp_ge (t := 327) (q := 147) C dX5_go_144 (by decide) rfl (fun c_144 => ?_) (fun c_144 => ?_)
    · skip
      have hNb := nI_ge_eq htb (by decide) c_144
      subst hNb
      have hx5 : M4 x = some (true, oSim (sDay S) (sWin S) (givn S) (some ha) (some oa) (some la)) := hk4 _ _ _ (hkM2 _ _ _ pX rfl) rfl
      have hkE : hKp noBun M2 (hU M4 x (oSim (sDay S + 1) (sWin S) (givn S) (some ha) (some oa) (some la))) → True := fun _ => trivial
      have kx : hKp noSx M4 (hU M4 x (oSim (sDay S + 1) (sWin S) (givn S) (some ha) (some oa) (some la))) := hKp.rf.put hx5 rfl
      refine g_aload_n (q := 328) C dX5_go_327 rfl (by first | exact hRef_r _ | exact hRef_o _ | exact hRef_n) rfl ?_
      refine g_dup (q := 329) C dX5_go_328 rfl rfl ?_
      refine g_get (q := 332) C hcl_X5 0 (by decide) qw_636 rfl dX5_go_329 (by exact hx5) rfl rfl ?_
      refine g_iconst (q := 333) (1) C dX5_go_332 (by decide) rfl ?_
      refine g_iadd (q := 334) C dX5_go_333 rfl ?_
      refine g_put (q := 337) C hcl_X5 0 (by decide) qw_636 rfl rfl rfl rfl dX5_go_334 (by exact hx5) (Nat.le_of_ble_eq_true rfl) rfl ?_
      (try rw [hU_2])
      exact g_vret C dX5_go_337 (⟨⟨ha, oa, la, ob, rx, bd, hU_s _ _ _, ((pH.kp hkM2 rfl rfl).kp hk4 rfl rfl).kp kx rfl rfl, ((pO.kp hkM2 rfl rfl).kp hk4 rfl rfl).kp kx rfl rfl, ((pL.kp hkM2 rfl rfl).kp hk4 rfl rfl).kp kx rfl rfl, (hB4.congr vMix_40).kp kx rfl⟩, fun a w e h hp => kx _ _ _ (hk4 _ _ _ (hkM2 _ _ _ h rfl) (noSim_noBun _ hp)) (noSim_noSx _ hp)⟩) (by decide) (by decide)
    · skip
      have hltb := nI_nge_lt htb (by decide) c_144
      obtain ⟨hr1, rf, hr2, hr3⟩ := pRow t hltb
      refine g_iconst (q := 148) (0) C dX5_go_147 (by decide) rfl ?_
      refine g_istore5 (q := 150) C dX5_go_148 (by first | rfl | exact hNw_rf _) rfl ?_
      refine h_loopU (P := fun h => ∀ (M5 : hM) (o6 o7 : Option Value), hKp noBun M2 M5 → smB Γ M5 bd (vMix (t * 8 + h) (vDay (sE S) (sL S) (sWin S) (nI d) (sB S)) (sB S)) → hG Γ k9 _ _ M5 12 90 150 [some (.ref x), some (.int (nI d)), some (.ref fb), some (.ref nb), some (.int (nI t)), some (.int (nI h)), o6, o7] []) (N := 8) (fun h hhb ihc => ?_) 0 (Nat.zero_le _) M4 _ _ hk4 hB4
      intro M5 o6d o7d hk5 hB5
      refine g_iload (q := 152) C dX5_go_150 rfl rfl ?_
      refine g_bipush (q := 154) (8) C dX5_go_152 (by decide) rfl ?_
      refine g_icmp_ge (t := 321) (q := 157) C dX5_go_154 (by decide) rfl (fun c_154 => ?_) (fun c_154 => ?_)
      · skip
        have hNc := nI_ge_eq hhb (by decide) c_154
        subst hNc
        refine g_iinc4 (q := 324) (1) C dX5_go_321 (by decide) (by first | rfl | exact hNw_rf _) rfl ?_
        refine g_goto (t := 141) C dX5_go_324 (by decide) ?_
        rw [nI_1]
        have hgo := ihb hltb M5 (some (.int (nI 8))) o6d o7d hk5
        rw [Nat.succ_mul] at hgo
        exact hgo hB5
      · skip
        have hltc := nI_nge_lt hhb (by decide) c_154
        have hixb : t * 8 + h < 40 := by omega
        refine g_aload_n (q := 158) C dX5_go_157 rfl (by first | exact hRef_r _ | exact hRef_o _ | exact hRef_n) rfl ?_
        refine g_get (q := 161) C hcl_X5 5 (by decide) qw_644 rfl dX5_go_158 (by exact hk5 _ _ _ (hkM2 _ _ _ pX rfl) rfl) rfl rfl ?_
        refine g_iload (q := 163) C dX5_go_161 rfl rfl ?_
        refine g_aaldRR (q := 164) C t rfl hltb (by decide) dX5_go_163 (hk5 _ _ _ (hkM2 _ _ _ pLf rfl) rfl) hr1 rfl ?_
        refine g_iload (q := 166) C dX5_go_164 rfl rfl ?_
        refine g_aaldR (q := 167) C h rfl hltc (by omega) dX5_go_166 (hk5 _ _ _ (hkM2 _ _ _ hr2 rfl) rfl) (congrArg va_rf (hr3 h hltc)) rfl ?_
        refine g_astore6 (q := 169) C dX5_go_167 (by first | exact hRef_r _ | exact hRef_o _ | exact hRef_n) (by first | rfl | exact hNw_rf _) rfl ?_
        refine g_aload (q := 171) C dX5_go_169 rfl (by first | exact hRef_r _ | exact hRef_o _ | exact hRef_n) rfl ?_
        refine g_ifnonnull (t := 177) (q := 174) C dX5_go_171 (by decide) rfl (fun y_171 e_171 => ?_) (fun e_171 => ?_)
        · skip
          obtain ⟨j2, f9, tk2, hm5, q0, q1, q2, q3, q4⟩ := hB5.of hixb e_171
          rw [vMix_at] at tk2 q1 q2 q3 q4
          rw [e_171]
          obtain ⟨hj2, u, v, wd, m, hu, hv, hwd, hm9, hb9⟩ := (hI.2.2.2.1 _ hixb).tk tk2
          obtain ⟨aH, fH, z1, z2, z3, z4⟩ := pHr j2 hj2
          obtain ⟨ez, lz, e1z, e9z, l20, l90, eez, elz⟩ := hI.2.1 j2 hj2
          obtain ⟨qw, hqw, eqw⟩ := wets_nI (sB S) (t * 8 + h)
          obtain ⟨F, hF1, hF2⟩ := hf2.1 t hltb
          obtain ⟨N, hN1, hN2⟩ := hf2.2 t hltb
          have eF : F h = sFo (nI ez) t (nI wn) (nI d) (nI qw) := by rw [hF2 h j2 hltc (by omega) tk2, eez, ewn, eqw]
          have eN : N h = bI (nSp (sB S) (t * 8 + h)) := hN2 h j2 hltc (by omega) tk2
          have b1 : f9 1 = nI u := by rw [q1, hb9]
          have b2 : f9 2 = nI v := by rw [q2, hb9]
          have b3 : f9 3 = nI wd := by rw [q3, hb9]
          have b4 : f9 4 = nI m := by rw [q4, hb9]
          obtain ⟨FN, hFN⟩ : ∃ FN, FN = fN ez t wn d qw := ⟨_, rfl⟩
          have h19 : FN ≤ 19 := by rw [hFN]; exact fN_le e9z (by omega) hwn
          have hvd := dBun_nI (n := sN S) (l := lz) hixb e9z hwn hd hqw eqw hu hv hb9
          rw [show (t * 8 + h) / 8 = t by omega, ← hFN, ← eez, ← elz, ← ewn, ← vDay_at (E := sE S) (L := sL S) tk2] at hvd
          have hkc : ∀ g : Nat → Int32, hKp noBun M2 (hU M5 y_171 (aI Γ 5 g)) := fun g => hk5.put hm5 rfl
          refine g_iconst (q := 178) (1) C dX5_go_177 (by decide) rfl ?_
          refine g_istore7 (q := 180) C dX5_go_178 (by first | rfl | exact hNw_rf _) rfl ?_
          refine g_eqw (M1 := hU M5 y_171 (aI Γ 5 f9)) (hU_same hm5).symm ?_
          refine h_loopU (P := fun n => ∀ g : Nat → Int32, g 0 = nI j2 → g 1 = nI (u - n) → g 2 = nI (v - n / 2) → g 3 = nI wd → g 4 = nI m → hG Γ k9 _ _ (hU M5 y_171 (aI Γ 5 g)) 12 90 180 [some (.ref x), some (.int (nI d)), some (.ref fb), some (.ref nb), some (.int (nI t)), some (.int (nI h)), some (.ref y_171), some (.int (nI (n + 1)))] []) (N := FN) (fun n hn ihn => ?_) 0 (Nat.zero_le _) f9 q0 b1 b2 b3 b4
          intro g a0 a1 a2 a3 a4
          refine g_iload (q := 182) C dX5_go_180 rfl rfl ?_
          refine g_aload_n (q := 183) C dX5_go_182 rfl (by first | exact hRef_r _ | exact hRef_o _ | exact hRef_n) rfl ?_
          refine g_iload (q := 185) C dX5_go_183 rfl rfl ?_
          refine g_aaldR (q := 186) C t rfl hltb (by omega) dX5_go_185 (hkc _ _ _ _ (hk2 _ _ _ F0 rfl) rfl) (congrArg va_rf (if_pos hltb)) rfl ?_
          refine g_iload (q := 188) C dX5_go_186 rfl rfl ?_
          refine g_iald (q := 189) C h rfl hltc (by decide) dX5_go_188 (hkc _ _ _ _ hF1 rfl) rfl ?_
          refine g_icmp_gt (t := 235) (q := 192) C dX5_go_189 (by decide) rfl (fun c_189 => ?_) (fun c_189 => ?_)
          · skip
            have hnN : n = FN := by
              rcases Nat.lt_or_ge n FN with z | z
              · exact absurd ((go_c (t := t) (j := n) e9z (by omega) hwn hd hqw (by omega)).mpr (by rw [← hFN]; exact z)) (fun z2 => Int32.not_lt.mpr z2 (by rw [← eF]; exact c_189))
              · omega
            rw [hnN] at a1 a2
            refine g_aload (q := 237) C dX5_go_235 rfl (by first | exact hRef_r _ | exact hRef_o _ | exact hRef_n) rfl ?_
            refine g_iconst (q := 238) (3) C dX5_go_237 (by decide) rfl ?_
            refine g_aload (q := 240) C dX5_go_238 rfl (by first | exact hRef_r _ | exact hRef_o _ | exact hRef_n) rfl ?_
            refine g_callS1P (q := 243) C hy_X5_wet (c_X5_wet Γ l (hU_s _ _ _) (by decide) (by decide)) qw_473 ⟨Nat.le_of_ble_eq_true rfl, Nat.le_of_ble_eq_true rfl⟩ (Nat.le_of_ble_eq_true rfl) rfl dX5_go_240 ⟨rfl, rfl⟩ ⟨by decide, by decide⟩ rfl ?_
            refine g_aload_n (q := 244) C dX5_go_243 rfl (by first | exact hRef_r _ | exact hRef_o _ | exact hRef_n) rfl ?_
            refine g_get (q := 247) C hcl_X5 3 (by decide) qw_640 rfl dX5_go_244 (by exact hkc _ _ _ _ (hkM2 _ _ _ pX rfl) rfl) rfl rfl ?_
            refine g_aload (q := 249) C dX5_go_247 rfl (by first | exact hRef_r _ | exact hRef_o _ | exact hRef_n) rfl ?_
            refine g_iconst (q := 250) (0) C dX5_go_249 (by decide) rfl ?_
            refine g_iald (q := 251) C 0 rfl (by decide) (by decide) dX5_go_250 (hU_s _ _ _) rfl ?_
            refine g_aaldR (q := 252) C j2 a0 hj2 (by omega) dX5_go_251 (hkc _ _ _ _ (hkM2 _ _ _ pHa rfl) rfl) (congrArg va_rf z1) rfl ?_
            refine g_iconst (q := 253) (1) C dX5_go_252 (by decide) rfl ?_
            refine g_iald (q := 254) C 1 rfl (by omega) (by omega) dX5_go_253 (hkc _ _ _ _ (hkM2 _ _ _ z2 rfl) rfl) rfl ?_
            refine g_icmp_le (t := 266) (q := 257) C dX5_go_254 (by decide) rfl (fun c_254 => ?_) (fun c_254 => ?_)
            · skip
              refine g_iconst (q := 267) (0) C dX5_go_266 (by decide) rfl ?_
              refine g_iast (q := 268) C 3 rfl (by decide) (by decide) dX5_go_267 (hU_s _ _ _) rfl ?_
              rw [hU_2]
              obtain ⟨g3, hg3⟩ : ∃ g9, g9 = upd g 3 0 := ⟨_, rfl⟩
              rw [← hg3]
              have t0 : g3 0 = nI j2 := by rw [hg3, pk_un (by decide)]; exact a0
              have t1 : g3 1 = nI (u - FN) := by rw [hg3, pk_un (by decide)]; exact a1
              have t2 : g3 2 = nI (v - FN / 2) := by rw [hg3, pk_un (by decide)]; exact a2
              have t3 : g3 3 = (dWd (sL S j2) (nI (u - FN)) (nI (v - FN / 2)) (nI wd)) := by
                rw [hg3, pk_us, ← a1, ← a2, ← z4]
                exact (if_neg (Int32.not_lt.mpr c_254)).symm
              have t4 : g3 4 = nI m := by rw [hg3, pk_un (by decide)]; exact a4
              refine g_aload (q := 270) C dX5_go_268 rfl (by first | exact hRef_r _ | exact hRef_o _ | exact hRef_n) rfl ?_
              refine g_iconst (q := 271) (3) C dX5_go_270 (by decide) rfl ?_
              refine g_iald (q := 272) C 3 rfl (by decide) (by decide) dX5_go_271 (hU_s _ _ _) rfl ?_
              refine g_iconst (q := 273) (2) C dX5_go_272 (by decide) rfl ?_
              refine g_icmp_le (t := 293) (q := 276) C dX5_go_273 (by decide) rfl (fun c_273 => ?_) (fun c_273 => ?_)
              · skip
                obtain ⟨g4, hg4⟩ : ∃ g9, g9 = g3 := ⟨_, rfl⟩
                rw [← hg4]
                have r0 : g4 0 = nI j2 := by rw [hg4]; exact t0
                have r1 : g4 1 = nI (u - FN) := by rw [hg4]; exact t1
                have r2 : g4 2 = nI (v - FN / 2) := by rw [hg4]; exact t2
                have r3 : g4 3 = (dWd (sL S j2) (nI (u - FN)) (nI (v - FN / 2)) (nI wd)) := by rw [hg4]; exact t3
                have r4 : g4 4 = (dM1 (dWd (sL S j2) (nI (u - FN)) (nI (v - FN / 2)) (nI wd)) (nI m)) := by
                  rw [hg4, t4]
                  exact (dM1_c (by rw [← t3]; exact Int32.not_lt.mpr c_273)).symm
                refine g_aload (q := 295) C dX5_go_293 rfl (by first | exact hRef_r _ | exact hRef_o _ | exact hRef_n) rfl ?_
                refine g_iconst (q := 296) (4) C dX5_go_295 (by decide) rfl ?_
                refine g_iald (q := 297) C 4 rfl (by decide) (by decide) dX5_go_296 (hU_s _ _ _) rfl ?_
                refine g_if_ne (t := 315) (q := 300) C dX5_go_297 (by decide) rfl (fun c_297 => ?_) (fun c_297 => ?_)
                · skip
                  obtain ⟨g5, hg5⟩ : ∃ g9, g9 = g4 := ⟨_, rfl⟩
                  rw [← hg5]
                  have p0 : g5 0 = nI j2 := by rw [hg5]; exact r0
                  have p4 : g5 4 = (dM2 (dM1 (dWd (sL S j2) (nI (u - FN)) (nI (v - FN / 2)) (nI wd)) (nI m)) (nSp (sB S) (t * 8 + h))) := by
                    rw [hg5, r4]
                    exact (if_neg (fun z => c_297 (by rw [r4]; exact z.1))).symm
                  have hvd1 : ((vDay (sE S) (sL S) (sWin S) (nI d) (sB S)) (t * 8 + h)).1 = some j2 := by rw [hvd]
                  have hvd2 : smC j2 ((vDay (sE S) (sL S) (sWin S) (nI d) (sB S)) (t * 8 + h)) g5 := by
                    rw [hvd]
                    exact ⟨p0, by rw [hg5]; exact r1, by rw [hg5]; exact r2, by rw [hg5]; exact r3, p4⟩
                  refine g_iinc5 (q := 318) (1) C dX5_go_315 (by decide) (by first | rfl | exact hNw_rf _) rfl ?_
                  refine g_goto (t := 150) C dX5_go_318 (by decide) ?_
                  rw [nI_1]
                  refine ihc hltc _ _ _ (hk5.put hm5 rfl) ?_
                  rw [show t * 8 + (h + 1) = (t * 8 + h) + 1 from rfl, ← vMix_s]
                  exact hB5.put hixb e_171 hvd1 hvd2
                · skip
                  refine g_aload_n (q := 301) C dX5_go_300 rfl (by first | exact hRef_r _ | exact hRef_o _ | exact hRef_n) rfl ?_
                  refine g_iload (q := 303) C dX5_go_301 rfl rfl ?_
                  refine g_aaldRZ (q := 304) C t rfl hltb (by decide) dX5_go_303 (hkc _ _ _ _ (hk2 _ _ _ N0 rfl) rfl) (congrArg va_rf (if_pos hltb)) rfl ?_
                  refine g_iload (q := 306) C dX5_go_304 rfl rfl ?_
                  refine g_zald (q := 307) C h rfl hltc (by decide) dX5_go_306 (hkc _ _ _ _ hN1 rfl) rfl ?_
                  rw [eN]
                  refine g_ifB_eq (t := 315) (q := 310) C dX5_go_307 (by decide) rfl (fun c_307 => ?_) (fun c_307 => ?_)
                  · skip
                    obtain ⟨g5, hg5⟩ : ∃ g9, g9 = g4 := ⟨_, rfl⟩
                    rw [← hg5]
                    have p0 : g5 0 = nI j2 := by rw [hg5]; exact r0
                    have p4 : g5 4 = (dM2 (dM1 (dWd (sL S j2) (nI (u - FN)) (nI (v - FN / 2)) (nI wd)) (nI m)) (nSp (sB S) (t * 8 + h))) := by
                      rw [hg5, r4, c_307]
                      exact (if_neg (fun z => absurd z.2 (by decide))).symm
                    have hvd1 : ((vDay (sE S) (sL S) (sWin S) (nI d) (sB S)) (t * 8 + h)).1 = some j2 := by rw [hvd]
                    have hvd2 : smC j2 ((vDay (sE S) (sL S) (sWin S) (nI d) (sB S)) (t * 8 + h)) g5 := by
                      rw [hvd]
                      exact ⟨p0, by rw [hg5]; exact r1, by rw [hg5]; exact r2, by rw [hg5]; exact r3, p4⟩
                    refine g_iinc5 (q := 318) (1) C dX5_go_315 (by decide) (by first | rfl | exact hNw_rf _) rfl ?_
                    refine g_goto (t := 150) C dX5_go_318 (by decide) ?_
                    rw [nI_1]
                    refine ihc hltc _ _ _ (hk5.put hm5 rfl) ?_
                    rw [show t * 8 + (h + 1) = (t * 8 + h) + 1 from rfl, ← vMix_s]
                    exact hB5.put hixb e_171 hvd1 hvd2
                  · skip
                    refine g_aload (q := 312) C dX5_go_310 rfl (by first | exact hRef_r _ | exact hRef_o _ | exact hRef_n) rfl ?_
                    refine g_iconst (q := 313) (4) C dX5_go_312 (by decide) rfl ?_
                    refine g_iconst (q := 314) (1) C dX5_go_313 (by decide) rfl ?_
                    refine g_iast (q := 315) C 4 rfl (by decide) (by decide) dX5_go_314 (hU_s _ _ _) rfl ?_
                    rw [hU_2]
                    obtain ⟨g5, hg5⟩ : ∃ g9, g9 = upd g4 4 1 := ⟨_, rfl⟩
                    rw [← hg5]
                    have p0 : g5 0 = nI j2 := by rw [hg5, pk_un (by decide)]; exact r0
                    have p4 : g5 4 = (dM2 (dM1 (dWd (sL S j2) (nI (u - FN)) (nI (v - FN / 2)) (nI wd)) (nI m)) (nSp (sB S) (t * 8 + h))) := by
                      rw [hg5, pk_us, c_307]
                      exact (if_pos ⟨by rw [← r4]; exact c_297, rfl⟩).symm
                    have hvd1 : ((vDay (sE S) (sL S) (sWin S) (nI d) (sB S)) (t * 8 + h)).1 = some j2 := by rw [hvd]
                    have hvd2 : smC j2 ((vDay (sE S) (sL S) (sWin S) (nI d) (sB S)) (t * 8 + h)) g5 := by
                      rw [hvd]
                      exact ⟨p0, by rw [hg5, pk_un (by decide)]; exact r1, by rw [hg5, pk_un (by decide)]; exact r2, by rw [hg5, pk_un (by decide)]; exact r3, p4⟩
                    refine g_iinc5 (q := 318) (1) C dX5_go_315 (by decide) (by first | rfl | exact hNw_rf _) rfl ?_
                    refine g_goto (t := 150) C dX5_go_318 (by decide) ?_
                    rw [nI_1]
                    refine ihc hltc _ _ _ (hk5.put hm5 rfl) ?_
                    rw [show t * 8 + (h + 1) = (t * 8 + h) + 1 from rfl, ← vMix_s]
                    exact hB5.put hixb e_171 hvd1 hvd2
              · skip
                refine g_aload (q := 278) C dX5_go_276 rfl (by first | exact hRef_r _ | exact hRef_o _ | exact hRef_n) rfl ?_
                refine g_iconst (q := 279) (4) C dX5_go_278 (by decide) rfl ?_
                refine g_iald (q := 280) C 4 rfl (by decide) (by decide) dX5_go_279 (hU_s _ _ _) rfl ?_
                refine g_bipush (q := 282) (9) C dX5_go_280 (by decide) rfl ?_
                refine g_icmp_ge (t := 293) (q := 285) C dX5_go_282 (by decide) rfl (fun c_282 => ?_) (fun c_282 => ?_)
                · skip
                  obtain ⟨g4, hg4⟩ : ∃ g9, g9 = g3 := ⟨_, rfl⟩
                  rw [← hg4]
                  have r0 : g4 0 = nI j2 := by rw [hg4]; exact t0
                  have r1 : g4 1 = nI (u - FN) := by rw [hg4]; exact t1
                  have r2 : g4 2 = nI (v - FN / 2) := by rw [hg4]; exact t2
                  have r3 : g4 3 = (dWd (sL S j2) (nI (u - FN)) (nI (v - FN / 2)) (nI wd)) := by rw [hg4]; exact t3
                  have r4 : g4 4 = (dM1 (dWd (sL S j2) (nI (u - FN)) (nI (v - FN / 2)) (nI wd)) (nI m)) := by
                    rw [hg4, t4]
                    exact (dM1_b hm9 (by rw [← t4]; exact Int32.not_lt.mpr c_282)).symm
                  refine g_aload (q := 295) C dX5_go_293 rfl (by first | exact hRef_r _ | exact hRef_o _ | exact hRef_n) rfl ?_
                  refine g_iconst (q := 296) (4) C dX5_go_295 (by decide) rfl ?_
                  refine g_iald (q := 297) C 4 rfl (by decide) (by decide) dX5_go_296 (hU_s _ _ _) rfl ?_
                  refine g_if_ne (t := 315) (q := 300) C dX5_go_297 (by decide) rfl (fun c_297 => ?_) (fun c_297 => ?_)
                  · skip
                    obtain ⟨g5, hg5⟩ : ∃ g9, g9 = g4 := ⟨_, rfl⟩
                    rw [← hg5]
                    have p0 : g5 0 = nI j2 := by rw [hg5]; exact r0
                    have p4 : g5 4 = (dM2 (dM1 (dWd (sL S j2) (nI (u - FN)) (nI (v - FN / 2)) (nI wd)) (nI m)) (nSp (sB S) (t * 8 + h))) := by
                      rw [hg5, r4]
                      exact (if_neg (fun z => c_297 (by rw [r4]; exact z.1))).symm
                    have hvd1 : ((vDay (sE S) (sL S) (sWin S) (nI d) (sB S)) (t * 8 + h)).1 = some j2 := by rw [hvd]
                    have hvd2 : smC j2 ((vDay (sE S) (sL S) (sWin S) (nI d) (sB S)) (t * 8 + h)) g5 := by
                      rw [hvd]
                      exact ⟨p0, by rw [hg5]; exact r1, by rw [hg5]; exact r2, by rw [hg5]; exact r3, p4⟩
                    refine g_iinc5 (q := 318) (1) C dX5_go_315 (by decide) (by first | rfl | exact hNw_rf _) rfl ?_
                    refine g_goto (t := 150) C dX5_go_318 (by decide) ?_
                    rw [nI_1]
                    refine ihc hltc _ _ _ (hk5.put hm5 rfl) ?_
                    rw [show t * 8 + (h + 1) = (t * 8 + h) + 1 from rfl, ← vMix_s]
                    exact hB5.put hixb e_171 hvd1 hvd2
                  · skip
                    refine g_aload_n (q := 301) C dX5_go_300 rfl (by first | exact hRef_r _ | exact hRef_o _ | exact hRef_n) rfl ?_
                    refine g_iload (q := 303) C dX5_go_301 rfl rfl ?_
                    refine g_aaldRZ (q := 304) C t rfl hltb (by decide) dX5_go_303 (hkc _ _ _ _ (hk2 _ _ _ N0 rfl) rfl) (congrArg va_rf (if_pos hltb)) rfl ?_
                    refine g_iload (q := 306) C dX5_go_304 rfl rfl ?_
                    refine g_zald (q := 307) C h rfl hltc (by decide) dX5_go_306 (hkc _ _ _ _ hN1 rfl) rfl ?_
                    rw [eN]
                    refine g_ifB_eq (t := 315) (q := 310) C dX5_go_307 (by decide) rfl (fun c_307 => ?_) (fun c_307 => ?_)
                    · skip
                      obtain ⟨g5, hg5⟩ : ∃ g9, g9 = g4 := ⟨_, rfl⟩
                      rw [← hg5]
                      have p0 : g5 0 = nI j2 := by rw [hg5]; exact r0
                      have p4 : g5 4 = (dM2 (dM1 (dWd (sL S j2) (nI (u - FN)) (nI (v - FN / 2)) (nI wd)) (nI m)) (nSp (sB S) (t * 8 + h))) := by
                        rw [hg5, r4, c_307]
                        exact (if_neg (fun z => absurd z.2 (by decide))).symm
                      have hvd1 : ((vDay (sE S) (sL S) (sWin S) (nI d) (sB S)) (t * 8 + h)).1 = some j2 := by rw [hvd]
                      have hvd2 : smC j2 ((vDay (sE S) (sL S) (sWin S) (nI d) (sB S)) (t * 8 + h)) g5 := by
                        rw [hvd]
                        exact ⟨p0, by rw [hg5]; exact r1, by rw [hg5]; exact r2, by rw [hg5]; exact r3, p4⟩
                      refine g_iinc5 (q := 318) (1) C dX5_go_315 (by decide) (by first | rfl | exact hNw_rf _) rfl ?_
                      refine g_goto (t := 150) C dX5_go_318 (by decide) ?_
                      rw [nI_1]
                      refine ihc hltc _ _ _ (hk5.put hm5 rfl) ?_
                      rw [show t * 8 + (h + 1) = (t * 8 + h) + 1 from rfl, ← vMix_s]
                      exact hB5.put hixb e_171 hvd1 hvd2
                    · skip
                      refine g_aload (q := 312) C dX5_go_310 rfl (by first | exact hRef_r _ | exact hRef_o _ | exact hRef_n) rfl ?_
                      refine g_iconst (q := 313) (4) C dX5_go_312 (by decide) rfl ?_
                      refine g_iconst (q := 314) (1) C dX5_go_313 (by decide) rfl ?_
                      refine g_iast (q := 315) C 4 rfl (by decide) (by decide) dX5_go_314 (hU_s _ _ _) rfl ?_
                      rw [hU_2]
                      obtain ⟨g5, hg5⟩ : ∃ g9, g9 = upd g4 4 1 := ⟨_, rfl⟩
                      rw [← hg5]
                      have p0 : g5 0 = nI j2 := by rw [hg5, pk_un (by decide)]; exact r0
                      have p4 : g5 4 = (dM2 (dM1 (dWd (sL S j2) (nI (u - FN)) (nI (v - FN / 2)) (nI wd)) (nI m)) (nSp (sB S) (t * 8 + h))) := by
                        rw [hg5, pk_us, c_307]
                        exact (if_pos ⟨by rw [← r4]; exact c_297, rfl⟩).symm
                      have hvd1 : ((vDay (sE S) (sL S) (sWin S) (nI d) (sB S)) (t * 8 + h)).1 = some j2 := by rw [hvd]
                      have hvd2 : smC j2 ((vDay (sE S) (sL S) (sWin S) (nI d) (sB S)) (t * 8 + h)) g5 := by
                        rw [hvd]
                        exact ⟨p0, by rw [hg5, pk_un (by decide)]; exact r1, by rw [hg5, pk_un (by decide)]; exact r2, by rw [hg5, pk_un (by decide)]; exact r3, p4⟩
                      refine g_iinc5 (q := 318) (1) C dX5_go_315 (by decide) (by first | rfl | exact hNw_rf _) rfl ?_
                      refine g_goto (t := 150) C dX5_go_318 (by decide) ?_
                      rw [nI_1]
                      refine ihc hltc _ _ _ (hk5.put hm5 rfl) ?_
                      rw [show t * 8 + (h + 1) = (t * 8 + h) + 1 from rfl, ← vMix_s]
                      exact hB5.put hixb e_171 hvd1 hvd2
                · skip
                  refine g_aload (q := 287) C dX5_go_285 rfl (by first | exact hRef_r _ | exact hRef_o _ | exact hRef_n) rfl ?_
                  refine g_iconst (q := 288) (4) C dX5_go_287 (by decide) rfl ?_
                  refine g_dup2 (q := 289) C dX5_go_288 rfl rfl rfl ?_
                  refine g_iald (q := 290) C 4 rfl (by decide) (by decide) dX5_go_289 (hU_s _ _ _) rfl ?_
                  refine g_iconst (q := 291) (1) C dX5_go_290 (by decide) rfl ?_
                  refine g_iadd (q := 292) C dX5_go_291 rfl ?_
                  refine g_iast (q := 293) C 4 rfl (by decide) (by decide) dX5_go_292 (hU_s _ _ _) rfl ?_
                  rw [hU_2]
                  obtain ⟨g4, hg4⟩ : ∃ g9, g9 = upd g3 4 (g3 4 + 1) := ⟨_, rfl⟩
                  rw [← hg4]
                  have r0 : g4 0 = nI j2 := by rw [hg4, pk_un (by decide)]; exact t0
                  have r1 : g4 1 = nI (u - FN) := by rw [hg4, pk_un (by decide)]; exact t1
                  have r2 : g4 2 = nI (v - FN / 2) := by rw [hg4, pk_un (by decide)]; exact t2
                  have r3 : g4 3 = (dWd (sL S j2) (nI (u - FN)) (nI (v - FN / 2)) (nI wd)) := by rw [hg4, pk_un (by decide)]; exact t3
                  have r4 : g4 4 = (dM1 (dWd (sL S j2) (nI (u - FN)) (nI (v - FN / 2)) (nI wd)) (nI m)) := by
                    rw [hg4, pk_us, t4]
                    exact (dM1_a hm9 (by rw [← t3]; exact Int32.not_le.mp c_273) (by rw [← t4]; exact Int32.not_le.mp c_282)).symm
                  refine g_aload (q := 295) C dX5_go_293 rfl (by first | exact hRef_r _ | exact hRef_o _ | exact hRef_n) rfl ?_
                  refine g_iconst (q := 296) (4) C dX5_go_295 (by decide) rfl ?_
                  refine g_iald (q := 297) C 4 rfl (by decide) (by decide) dX5_go_296 (hU_s _ _ _) rfl ?_
                  refine g_if_ne (t := 315) (q := 300) C dX5_go_297 (by decide) rfl (fun c_297 => ?_) (fun c_297 => ?_)
                  · skip
                    obtain ⟨g5, hg5⟩ : ∃ g9, g9 = g4 := ⟨_, rfl⟩
                    rw [← hg5]
                    have p0 : g5 0 = nI j2 := by rw [hg5]; exact r0
                    have p4 : g5 4 = (dM2 (dM1 (dWd (sL S j2) (nI (u - FN)) (nI (v - FN / 2)) (nI wd)) (nI m)) (nSp (sB S) (t * 8 + h))) := by
                      rw [hg5, r4]
                      exact (if_neg (fun z => c_297 (by rw [r4]; exact z.1))).symm
                    have hvd1 : ((vDay (sE S) (sL S) (sWin S) (nI d) (sB S)) (t * 8 + h)).1 = some j2 := by rw [hvd]
                    have hvd2 : smC j2 ((vDay (sE S) (sL S) (sWin S) (nI d) (sB S)) (t * 8 + h)) g5 := by
                      rw [hvd]
                      exact ⟨p0, by rw [hg5]; exact r1, by rw [hg5]; exact r2, by rw [hg5]; exact r3, p4⟩
                    refine g_iinc5 (q := 318) (1) C dX5_go_315 (by decide) (by first | rfl | exact hNw_rf _) rfl ?_
                    refine g_goto (t := 150) C dX5_go_318 (by decide) ?_
                    rw [nI_1]
                    refine ihc hltc _ _ _ (hk5.put hm5 rfl) ?_
                    rw [show t * 8 + (h + 1) = (t * 8 + h) + 1 from rfl, ← vMix_s]
                    exact hB5.put hixb e_171 hvd1 hvd2
                  · skip
                    refine g_aload_n (q := 301) C dX5_go_300 rfl (by first | exact hRef_r _ | exact hRef_o _ | exact hRef_n) rfl ?_
                    refine g_iload (q := 303) C dX5_go_301 rfl rfl ?_
                    refine g_aaldRZ (q := 304) C t rfl hltb (by decide) dX5_go_303 (hkc _ _ _ _ (hk2 _ _ _ N0 rfl) rfl) (congrArg va_rf (if_pos hltb)) rfl ?_
                    refine g_iload (q := 306) C dX5_go_304 rfl rfl ?_
                    refine g_zald (q := 307) C h rfl hltc (by decide) dX5_go_306 (hkc _ _ _ _ hN1 rfl) rfl ?_
                    rw [eN]
                    refine g_ifB_eq (t := 315) (q := 310) C dX5_go_307 (by decide) rfl (fun c_307 => ?_) (fun c_307 => ?_)
                    · skip
                      obtain ⟨g5, hg5⟩ : ∃ g9, g9 = g4 := ⟨_, rfl⟩
                      rw [← hg5]
                      have p0 : g5 0 = nI j2 := by rw [hg5]; exact r0
                      have p4 : g5 4 = (dM2 (dM1 (dWd (sL S j2) (nI (u - FN)) (nI (v - FN / 2)) (nI wd)) (nI m)) (nSp (sB S) (t * 8 + h))) := by
                        rw [hg5, r4, c_307]
                        exact (if_neg (fun z => absurd z.2 (by decide))).symm
                      have hvd1 : ((vDay (sE S) (sL S) (sWin S) (nI d) (sB S)) (t * 8 + h)).1 = some j2 := by rw [hvd]
                      have hvd2 : smC j2 ((vDay (sE S) (sL S) (sWin S) (nI d) (sB S)) (t * 8 + h)) g5 := by
                        rw [hvd]
                        exact ⟨p0, by rw [hg5]; exact r1, by rw [hg5]; exact r2, by rw [hg5]; exact r3, p4⟩
                      refine g_iinc5 (q := 318) (1) C dX5_go_315 (by decide) (by first | rfl | exact hNw_rf _) rfl ?_
                      refine g_goto (t := 150) C dX5_go_318 (by decide) ?_
                      rw [nI_1]
                      refine ihc hltc _ _ _ (hk5.put hm5 rfl) ?_
                      rw [show t * 8 + (h + 1) = (t * 8 + h) + 1 from rfl, ← vMix_s]
                      exact hB5.put hixb e_171 hvd1 hvd2
                    · skip
                      refine g_aload (q := 312) C dX5_go_310 rfl (by first | exact hRef_r _ | exact hRef_o _ | exact hRef_n) rfl ?_
                      refine g_iconst (q := 313) (4) C dX5_go_312 (by decide) rfl ?_
                      refine g_iconst (q := 314) (1) C dX5_go_313 (by decide) rfl ?_
                      refine g_iast (q := 315) C 4 rfl (by decide) (by decide) dX5_go_314 (hU_s _ _ _) rfl ?_
                      rw [hU_2]
                      obtain ⟨g5, hg5⟩ : ∃ g9, g9 = upd g4 4 1 := ⟨_, rfl⟩
                      rw [← hg5]
                      have p0 : g5 0 = nI j2 := by rw [hg5, pk_un (by decide)]; exact r0
                      have p4 : g5 4 = (dM2 (dM1 (dWd (sL S j2) (nI (u - FN)) (nI (v - FN / 2)) (nI wd)) (nI m)) (nSp (sB S) (t * 8 + h))) := by
                        rw [hg5, pk_us, c_307]
                        exact (if_pos ⟨by rw [← r4]; exact c_297, rfl⟩).symm
                      have hvd1 : ((vDay (sE S) (sL S) (sWin S) (nI d) (sB S)) (t * 8 + h)).1 = some j2 := by rw [hvd]
                      have hvd2 : smC j2 ((vDay (sE S) (sL S) (sWin S) (nI d) (sB S)) (t * 8 + h)) g5 := by
                        rw [hvd]
                        exact ⟨p0, by rw [hg5, pk_un (by decide)]; exact r1, by rw [hg5, pk_un (by decide)]; exact r2, by rw [hg5, pk_un (by decide)]; exact r3, p4⟩
                      refine g_iinc5 (q := 318) (1) C dX5_go_315 (by decide) (by first | rfl | exact hNw_rf _) rfl ?_
                      refine g_goto (t := 150) C dX5_go_318 (by decide) ?_
                      rw [nI_1]
                      refine ihc hltc _ _ _ (hk5.put hm5 rfl) ?_
                      rw [show t * 8 + (h + 1) = (t * 8 + h) + 1 from rfl, ← vMix_s]
                      exact hB5.put hixb e_171 hvd1 hvd2
            · skip
              refine g_aload (q := 259) C dX5_go_257 rfl (by first | exact hRef_r _ | exact hRef_o _ | exact hRef_n) rfl ?_
              refine g_iconst (q := 260) (3) C dX5_go_259 (by decide) rfl ?_
              refine g_iald (q := 261) C 3 rfl (by decide) (by decide) dX5_go_260 (hU_s _ _ _) rfl ?_
              refine g_iconst (q := 262) (1) C dX5_go_261 (by decide) rfl ?_
              refine g_iadd (q := 263) C dX5_go_262 rfl ?_
              refine g_goto (t := 267) C dX5_go_263 (by decide) ?_
              refine g_iast (q := 268) C 3 rfl (by decide) (by decide) dX5_go_267 (hU_s _ _ _) rfl ?_
              rw [hU_2]
              obtain ⟨g3, hg3⟩ : ∃ g9, g9 = upd g 3 (g 3 + 1) := ⟨_, rfl⟩
              rw [← hg3]
              have t0 : g3 0 = nI j2 := by rw [hg3, pk_un (by decide)]; exact a0
              have t1 : g3 1 = nI (u - FN) := by rw [hg3, pk_un (by decide)]; exact a1
              have t2 : g3 2 = nI (v - FN / 2) := by rw [hg3, pk_un (by decide)]; exact a2
              have t3 : g3 3 = (dWd (sL S j2) (nI (u - FN)) (nI (v - FN / 2)) (nI wd)) := by
                rw [hg3, pk_us, a3, ← a1, ← a2, ← z4]
                exact (if_pos (Int32.not_le.mp c_254)).symm
              have t4 : g3 4 = nI m := by rw [hg3, pk_un (by decide)]; exact a4
              refine g_aload (q := 270) C dX5_go_268 rfl (by first | exact hRef_r _ | exact hRef_o _ | exact hRef_n) rfl ?_
              refine g_iconst (q := 271) (3) C dX5_go_270 (by decide) rfl ?_
              refine g_iald (q := 272) C 3 rfl (by decide) (by decide) dX5_go_271 (hU_s _ _ _) rfl ?_
              refine g_iconst (q := 273) (2) C dX5_go_272 (by decide) rfl ?_
              refine g_icmp_le (t := 293) (q := 276) C dX5_go_273 (by decide) rfl (fun c_273 => ?_) (fun c_273 => ?_)
              · skip
                obtain ⟨g4, hg4⟩ : ∃ g9, g9 = g3 := ⟨_, rfl⟩
                rw [← hg4]
                have r0 : g4 0 = nI j2 := by rw [hg4]; exact t0
                have r1 : g4 1 = nI (u - FN) := by rw [hg4]; exact t1
                have r2 : g4 2 = nI (v - FN / 2) := by rw [hg4]; exact t2
                have r3 : g4 3 = (dWd (sL S j2) (nI (u - FN)) (nI (v - FN / 2)) (nI wd)) := by rw [hg4]; exact t3
                have r4 : g4 4 = (dM1 (dWd (sL S j2) (nI (u - FN)) (nI (v - FN / 2)) (nI wd)) (nI m)) := by
                  rw [hg4, t4]
                  exact (dM1_c (by rw [← t3]; exact Int32.not_lt.mpr c_273)).symm
                refine g_aload (q := 295) C dX5_go_293 rfl (by first | exact hRef_r _ | exact hRef_o _ | exact hRef_n) rfl ?_
                refine g_iconst (q := 296) (4) C dX5_go_295 (by decide) rfl ?_
                refine g_iald (q := 297) C 4 rfl (by decide) (by decide) dX5_go_296 (hU_s _ _ _) rfl ?_
                refine g_if_ne (t := 315) (q := 300) C dX5_go_297 (by decide) rfl (fun c_297 => ?_) (fun c_297 => ?_)
                · skip
                  obtain ⟨g5, hg5⟩ : ∃ g9, g9 = g4 := ⟨_, rfl⟩
                  rw [← hg5]
                  have p0 : g5 0 = nI j2 := by rw [hg5]; exact r0
                  have p4 : g5 4 = (dM2 (dM1 (dWd (sL S j2) (nI (u - FN)) (nI (v - FN / 2)) (nI wd)) (nI m)) (nSp (sB S) (t * 8 + h))) := by
                    rw [hg5, r4]
                    exact (if_neg (fun z => c_297 (by rw [r4]; exact z.1))).symm
                  have hvd1 : ((vDay (sE S) (sL S) (sWin S) (nI d) (sB S)) (t * 8 + h)).1 = some j2 := by rw [hvd]
                  have hvd2 : smC j2 ((vDay (sE S) (sL S) (sWin S) (nI d) (sB S)) (t * 8 + h)) g5 := by
                    rw [hvd]
                    exact ⟨p0, by rw [hg5]; exact r1, by rw [hg5]; exact r2, by rw [hg5]; exact r3, p4⟩
                  refine g_iinc5 (q := 318) (1) C dX5_go_315 (by decide) (by first | rfl | exact hNw_rf _) rfl ?_
                  refine g_goto (t := 150) C dX5_go_318 (by decide) ?_
                  rw [nI_1]
                  refine ihc hltc _ _ _ (hk5.put hm5 rfl) ?_
                  rw [show t * 8 + (h + 1) = (t * 8 + h) + 1 from rfl, ← vMix_s]
                  exact hB5.put hixb e_171 hvd1 hvd2
                · skip
                  refine g_aload_n (q := 301) C dX5_go_300 rfl (by first | exact hRef_r _ | exact hRef_o _ | exact hRef_n) rfl ?_
                  refine g_iload (q := 303) C dX5_go_301 rfl rfl ?_
                  refine g_aaldRZ (q := 304) C t rfl hltb (by decide) dX5_go_303 (hkc _ _ _ _ (hk2 _ _ _ N0 rfl) rfl) (congrArg va_rf (if_pos hltb)) rfl ?_
                  refine g_iload (q := 306) C dX5_go_304 rfl rfl ?_
                  refine g_zald (q := 307) C h rfl hltc (by decide) dX5_go_306 (hkc _ _ _ _ hN1 rfl) rfl ?_
                  rw [eN]
                  refine g_ifB_eq (t := 315) (q := 310) C dX5_go_307 (by decide) rfl (fun c_307 => ?_) (fun c_307 => ?_)
                  · skip
                    obtain ⟨g5, hg5⟩ : ∃ g9, g9 = g4 := ⟨_, rfl⟩
                    rw [← hg5]
                    have p0 : g5 0 = nI j2 := by rw [hg5]; exact r0
                    have p4 : g5 4 = (dM2 (dM1 (dWd (sL S j2) (nI (u - FN)) (nI (v - FN / 2)) (nI wd)) (nI m)) (nSp (sB S) (t * 8 + h))) := by
                      rw [hg5, r4, c_307]
                      exact (if_neg (fun z => absurd z.2 (by decide))).symm
                    have hvd1 : ((vDay (sE S) (sL S) (sWin S) (nI d) (sB S)) (t * 8 + h)).1 = some j2 := by rw [hvd]
                    have hvd2 : smC j2 ((vDay (sE S) (sL S) (sWin S) (nI d) (sB S)) (t * 8 + h)) g5 := by
                      rw [hvd]
                      exact ⟨p0, by rw [hg5]; exact r1, by rw [hg5]; exact r2, by rw [hg5]; exact r3, p4⟩
                    refine g_iinc5 (q := 318) (1) C dX5_go_315 (by decide) (by first | rfl | exact hNw_rf _) rfl ?_
                    refine g_goto (t := 150) C dX5_go_318 (by decide) ?_
                    rw [nI_1]
                    refine ihc hltc _ _ _ (hk5.put hm5 rfl) ?_
                    rw [show t * 8 + (h + 1) = (t * 8 + h) + 1 from rfl, ← vMix_s]
                    exact hB5.put hixb e_171 hvd1 hvd2
                  · skip
                    refine g_aload (q := 312) C dX5_go_310 rfl (by first | exact hRef_r _ | exact hRef_o _ | exact hRef_n) rfl ?_
                    refine g_iconst (q := 313) (4) C dX5_go_312 (by decide) rfl ?_
                    refine g_iconst (q := 314) (1) C dX5_go_313 (by decide) rfl ?_
                    refine g_iast (q := 315) C 4 rfl (by decide) (by decide) dX5_go_314 (hU_s _ _ _) rfl ?_
                    rw [hU_2]
                    obtain ⟨g5, hg5⟩ : ∃ g9, g9 = upd g4 4 1 := ⟨_, rfl⟩
                    rw [← hg5]
                    have p0 : g5 0 = nI j2 := by rw [hg5, pk_un (by decide)]; exact r0
                    have p4 : g5 4 = (dM2 (dM1 (dWd (sL S j2) (nI (u - FN)) (nI (v - FN / 2)) (nI wd)) (nI m)) (nSp (sB S) (t * 8 + h))) := by
                      rw [hg5, pk_us, c_307]
                      exact (if_pos ⟨by rw [← r4]; exact c_297, rfl⟩).symm
                    have hvd1 : ((vDay (sE S) (sL S) (sWin S) (nI d) (sB S)) (t * 8 + h)).1 = some j2 := by rw [hvd]
                    have hvd2 : smC j2 ((vDay (sE S) (sL S) (sWin S) (nI d) (sB S)) (t * 8 + h)) g5 := by
                      rw [hvd]
                      exact ⟨p0, by rw [hg5, pk_un (by decide)]; exact r1, by rw [hg5, pk_un (by decide)]; exact r2, by rw [hg5, pk_un (by decide)]; exact r3, p4⟩
                    refine g_iinc5 (q := 318) (1) C dX5_go_315 (by decide) (by first | rfl | exact hNw_rf _) rfl ?_
                    refine g_goto (t := 150) C dX5_go_318 (by decide) ?_
                    rw [nI_1]
                    refine ihc hltc _ _ _ (hk5.put hm5 rfl) ?_
                    rw [show t * 8 + (h + 1) = (t * 8 + h) + 1 from rfl, ← vMix_s]
                    exact hB5.put hixb e_171 hvd1 hvd2
              · skip
                refine g_aload (q := 278) C dX5_go_276 rfl (by first | exact hRef_r _ | exact hRef_o _ | exact hRef_n) rfl ?_
                refine g_iconst (q := 279) (4) C dX5_go_278 (by decide) rfl ?_
                refine g_iald (q := 280) C 4 rfl (by decide) (by decide) dX5_go_279 (hU_s _ _ _) rfl ?_
                refine g_bipush (q := 282) (9) C dX5_go_280 (by decide) rfl ?_
                refine g_icmp_ge (t := 293) (q := 285) C dX5_go_282 (by decide) rfl (fun c_282 => ?_) (fun c_282 => ?_)
                · skip
                  obtain ⟨g4, hg4⟩ : ∃ g9, g9 = g3 := ⟨_, rfl⟩
                  rw [← hg4]
                  have r0 : g4 0 = nI j2 := by rw [hg4]; exact t0
                  have r1 : g4 1 = nI (u - FN) := by rw [hg4]; exact t1
                  have r2 : g4 2 = nI (v - FN / 2) := by rw [hg4]; exact t2
                  have r3 : g4 3 = (dWd (sL S j2) (nI (u - FN)) (nI (v - FN / 2)) (nI wd)) := by rw [hg4]; exact t3
                  have r4 : g4 4 = (dM1 (dWd (sL S j2) (nI (u - FN)) (nI (v - FN / 2)) (nI wd)) (nI m)) := by
                    rw [hg4, t4]
                    exact (dM1_b hm9 (by rw [← t4]; exact Int32.not_lt.mpr c_282)).symm
                  refine g_aload (q := 295) C dX5_go_293 rfl (by first | exact hRef_r _ | exact hRef_o _ | exact hRef_n) rfl ?_
                  refine g_iconst (q := 296) (4) C dX5_go_295 (by decide) rfl ?_
                  refine g_iald (q := 297) C 4 rfl (by decide) (by decide) dX5_go_296 (hU_s _ _ _) rfl ?_
                  refine g_if_ne (t := 315) (q := 300) C dX5_go_297 (by decide) rfl (fun c_297 => ?_) (fun c_297 => ?_)
                  · skip
                    obtain ⟨g5, hg5⟩ : ∃ g9, g9 = g4 := ⟨_, rfl⟩
                    rw [← hg5]
                    have p0 : g5 0 = nI j2 := by rw [hg5]; exact r0
                    have p4 : g5 4 = (dM2 (dM1 (dWd (sL S j2) (nI (u - FN)) (nI (v - FN / 2)) (nI wd)) (nI m)) (nSp (sB S) (t * 8 + h))) := by
                      rw [hg5, r4]
                      exact (if_neg (fun z => c_297 (by rw [r4]; exact z.1))).symm
                    have hvd1 : ((vDay (sE S) (sL S) (sWin S) (nI d) (sB S)) (t * 8 + h)).1 = some j2 := by rw [hvd]
                    have hvd2 : smC j2 ((vDay (sE S) (sL S) (sWin S) (nI d) (sB S)) (t * 8 + h)) g5 := by
                      rw [hvd]
                      exact ⟨p0, by rw [hg5]; exact r1, by rw [hg5]; exact r2, by rw [hg5]; exact r3, p4⟩
                    refine g_iinc5 (q := 318) (1) C dX5_go_315 (by decide) (by first | rfl | exact hNw_rf _) rfl ?_
                    refine g_goto (t := 150) C dX5_go_318 (by decide) ?_
                    rw [nI_1]
                    refine ihc hltc _ _ _ (hk5.put hm5 rfl) ?_
                    rw [show t * 8 + (h + 1) = (t * 8 + h) + 1 from rfl, ← vMix_s]
                    exact hB5.put hixb e_171 hvd1 hvd2
                  · skip
                    refine g_aload_n (q := 301) C dX5_go_300 rfl (by first | exact hRef_r _ | exact hRef_o _ | exact hRef_n) rfl ?_
                    refine g_iload (q := 303) C dX5_go_301 rfl rfl ?_
                    refine g_aaldRZ (q := 304) C t rfl hltb (by decide) dX5_go_303 (hkc _ _ _ _ (hk2 _ _ _ N0 rfl) rfl) (congrArg va_rf (if_pos hltb)) rfl ?_
                    refine g_iload (q := 306) C dX5_go_304 rfl rfl ?_
                    refine g_zald (q := 307) C h rfl hltc (by decide) dX5_go_306 (hkc _ _ _ _ hN1 rfl) rfl ?_
                    rw [eN]
                    refine g_ifB_eq (t := 315) (q := 310) C dX5_go_307 (by decide) rfl (fun c_307 => ?_) (fun c_307 => ?_)
                    · skip
                      obtain ⟨g5, hg5⟩ : ∃ g9, g9 = g4 := ⟨_, rfl⟩
                      rw [← hg5]
                      have p0 : g5 0 = nI j2 := by rw [hg5]; exact r0
                      have p4 : g5 4 = (dM2 (dM1 (dWd (sL S j2) (nI (u - FN)) (nI (v - FN / 2)) (nI wd)) (nI m)) (nSp (sB S) (t * 8 + h))) := by
                        rw [hg5, r4, c_307]
                        exact (if_neg (fun z => absurd z.2 (by decide))).symm
                      have hvd1 : ((vDay (sE S) (sL S) (sWin S) (nI d) (sB S)) (t * 8 + h)).1 = some j2 := by rw [hvd]
                      have hvd2 : smC j2 ((vDay (sE S) (sL S) (sWin S) (nI d) (sB S)) (t * 8 + h)) g5 := by
                        rw [hvd]
                        exact ⟨p0, by rw [hg5]; exact r1, by rw [hg5]; exact r2, by rw [hg5]; exact r3, p4⟩
                      refine g_iinc5 (q := 318) (1) C dX5_go_315 (by decide) (by first | rfl | exact hNw_rf _) rfl ?_
                      refine g_goto (t := 150) C dX5_go_318 (by decide) ?_
                      rw [nI_1]
                      refine ihc hltc _ _ _ (hk5.put hm5 rfl) ?_
                      rw [show t * 8 + (h + 1) = (t * 8 + h) + 1 from rfl, ← vMix_s]
                      exact hB5.put hixb e_171 hvd1 hvd2
                    · skip
                      refine g_aload (q := 312) C dX5_go_310 rfl (by first | exact hRef_r _ | exact hRef_o _ | exact hRef_n) rfl ?_
                      refine g_iconst (q := 313) (4) C dX5_go_312 (by decide) rfl ?_
                      refine g_iconst (q := 314) (1) C dX5_go_313 (by decide) rfl ?_
                      refine g_iast (q := 315) C 4 rfl (by decide) (by decide) dX5_go_314 (hU_s _ _ _) rfl ?_
                      rw [hU_2]
                      obtain ⟨g5, hg5⟩ : ∃ g9, g9 = upd g4 4 1 := ⟨_, rfl⟩
                      rw [← hg5]
                      have p0 : g5 0 = nI j2 := by rw [hg5, pk_un (by decide)]; exact r0
                      have p4 : g5 4 = (dM2 (dM1 (dWd (sL S j2) (nI (u - FN)) (nI (v - FN / 2)) (nI wd)) (nI m)) (nSp (sB S) (t * 8 + h))) := by
                        rw [hg5, pk_us, c_307]
                        exact (if_pos ⟨by rw [← r4]; exact c_297, rfl⟩).symm
                      have hvd1 : ((vDay (sE S) (sL S) (sWin S) (nI d) (sB S)) (t * 8 + h)).1 = some j2 := by rw [hvd]
                      have hvd2 : smC j2 ((vDay (sE S) (sL S) (sWin S) (nI d) (sB S)) (t * 8 + h)) g5 := by
                        rw [hvd]
                        exact ⟨p0, by rw [hg5, pk_un (by decide)]; exact r1, by rw [hg5, pk_un (by decide)]; exact r2, by rw [hg5, pk_un (by decide)]; exact r3, p4⟩
                      refine g_iinc5 (q := 318) (1) C dX5_go_315 (by decide) (by first | rfl | exact hNw_rf _) rfl ?_
                      refine g_goto (t := 150) C dX5_go_318 (by decide) ?_
                      rw [nI_1]
                      refine ihc hltc _ _ _ (hk5.put hm5 rfl) ?_
                      rw [show t * 8 + (h + 1) = (t * 8 + h) + 1 from rfl, ← vMix_s]
                      exact hB5.put hixb e_171 hvd1 hvd2
                · skip
                  refine g_aload (q := 287) C dX5_go_285 rfl (by first | exact hRef_r _ | exact hRef_o _ | exact hRef_n) rfl ?_
                  refine g_iconst (q := 288) (4) C dX5_go_287 (by decide) rfl ?_
                  refine g_dup2 (q := 289) C dX5_go_288 rfl rfl rfl ?_
                  refine g_iald (q := 290) C 4 rfl (by decide) (by decide) dX5_go_289 (hU_s _ _ _) rfl ?_
                  refine g_iconst (q := 291) (1) C dX5_go_290 (by decide) rfl ?_
                  refine g_iadd (q := 292) C dX5_go_291 rfl ?_
                  refine g_iast (q := 293) C 4 rfl (by decide) (by decide) dX5_go_292 (hU_s _ _ _) rfl ?_
                  rw [hU_2]
                  obtain ⟨g4, hg4⟩ : ∃ g9, g9 = upd g3 4 (g3 4 + 1) := ⟨_, rfl⟩
                  rw [← hg4]
                  have r0 : g4 0 = nI j2 := by rw [hg4, pk_un (by decide)]; exact t0
                  have r1 : g4 1 = nI (u - FN) := by rw [hg4, pk_un (by decide)]; exact t1
                  have r2 : g4 2 = nI (v - FN / 2) := by rw [hg4, pk_un (by decide)]; exact t2
                  have r3 : g4 3 = (dWd (sL S j2) (nI (u - FN)) (nI (v - FN / 2)) (nI wd)) := by rw [hg4, pk_un (by decide)]; exact t3
                  have r4 : g4 4 = (dM1 (dWd (sL S j2) (nI (u - FN)) (nI (v - FN / 2)) (nI wd)) (nI m)) := by
                    rw [hg4, pk_us, t4]
                    exact (dM1_a hm9 (by rw [← t3]; exact Int32.not_le.mp c_273) (by rw [← t4]; exact Int32.not_le.mp c_282)).symm
                  refine g_aload (q := 295) C dX5_go_293 rfl (by first | exact hRef_r _ | exact hRef_o _ | exact hRef_n) rfl ?_
                  refine g_iconst (q := 296) (4) C dX5_go_295 (by decide) rfl ?_
                  refine g_iald (q := 297) C 4 rfl (by decide) (by decide) dX5_go_296 (hU_s _ _ _) rfl ?_
                  refine g_if_ne (t := 315) (q := 300) C dX5_go_297 (by decide) rfl (fun c_297 => ?_) (fun c_297 => ?_)
                  · skip
                    obtain ⟨g5, hg5⟩ : ∃ g9, g9 = g4 := ⟨_, rfl⟩
                    rw [← hg5]
                    have p0 : g5 0 = nI j2 := by rw [hg5]; exact r0
                    have p4 : g5 4 = (dM2 (dM1 (dWd (sL S j2) (nI (u - FN)) (nI (v - FN / 2)) (nI wd)) (nI m)) (nSp (sB S) (t * 8 + h))) := by
                      rw [hg5, r4]
                      exact (if_neg (fun z => c_297 (by rw [r4]; exact z.1))).symm
                    have hvd1 : ((vDay (sE S) (sL S) (sWin S) (nI d) (sB S)) (t * 8 + h)).1 = some j2 := by rw [hvd]
                    have hvd2 : smC j2 ((vDay (sE S) (sL S) (sWin S) (nI d) (sB S)) (t * 8 + h)) g5 := by
                      rw [hvd]
                      exact ⟨p0, by rw [hg5]; exact r1, by rw [hg5]; exact r2, by rw [hg5]; exact r3, p4⟩
                    refine g_iinc5 (q := 318) (1) C dX5_go_315 (by decide) (by first | rfl | exact hNw_rf _) rfl ?_
                    refine g_goto (t := 150) C dX5_go_318 (by decide) ?_
                    rw [nI_1]
                    refine ihc hltc _ _ _ (hk5.put hm5 rfl) ?_
                    rw [show t * 8 + (h + 1) = (t * 8 + h) + 1 from rfl, ← vMix_s]
                    exact hB5.put hixb e_171 hvd1 hvd2
                  · skip
                    refine g_aload_n (q := 301) C dX5_go_300 rfl (by first | exact hRef_r _ | exact hRef_o _ | exact hRef_n) rfl ?_
                    refine g_iload (q := 303) C dX5_go_301 rfl rfl ?_
                    refine g_aaldRZ (q := 304) C t rfl hltb (by decide) dX5_go_303 (hkc _ _ _ _ (hk2 _ _ _ N0 rfl) rfl) (congrArg va_rf (if_pos hltb)) rfl ?_
                    refine g_iload (q := 306) C dX5_go_304 rfl rfl ?_
                    refine g_zald (q := 307) C h rfl hltc (by decide) dX5_go_306 (hkc _ _ _ _ hN1 rfl) rfl ?_
                    rw [eN]
                    refine g_ifB_eq (t := 315) (q := 310) C dX5_go_307 (by decide) rfl (fun c_307 => ?_) (fun c_307 => ?_)
                    · skip
                      obtain ⟨g5, hg5⟩ : ∃ g9, g9 = g4 := ⟨_, rfl⟩
                      rw [← hg5]
                      have p0 : g5 0 = nI j2 := by rw [hg5]; exact r0
                      have p4 : g5 4 = (dM2 (dM1 (dWd (sL S j2) (nI (u - FN)) (nI (v - FN / 2)) (nI wd)) (nI m)) (nSp (sB S) (t * 8 + h))) := by
                        rw [hg5, r4, c_307]
                        exact (if_neg (fun z => absurd z.2 (by decide))).symm
                      have hvd1 : ((vDay (sE S) (sL S) (sWin S) (nI d) (sB S)) (t * 8 + h)).1 = some j2 := by rw [hvd]
                      have hvd2 : smC j2 ((vDay (sE S) (sL S) (sWin S) (nI d) (sB S)) (t * 8 + h)) g5 := by
                        rw [hvd]
                        exact ⟨p0, by rw [hg5]; exact r1, by rw [hg5]; exact r2, by rw [hg5]; exact r3, p4⟩
                      refine g_iinc5 (q := 318) (1) C dX5_go_315 (by decide) (by first | rfl | exact hNw_rf _) rfl ?_
                      refine g_goto (t := 150) C dX5_go_318 (by decide) ?_
                      rw [nI_1]
                      refine ihc hltc _ _ _ (hk5.put hm5 rfl) ?_
                      rw [show t * 8 + (h + 1) = (t * 8 + h) + 1 from rfl, ← vMix_s]
                      exact hB5.put hixb e_171 hvd1 hvd2
                    · skip
                      refine g_aload (q := 312) C dX5_go_310 rfl (by first | exact hRef_r _ | exact hRef_o _ | exact hRef_n) rfl ?_
                      refine g_iconst (q := 313) (4) C dX5_go_312 (by decide) rfl ?_
                      refine g_iconst (q := 314) (1) C dX5_go_313 (by decide) rfl ?_
                      refine g_iast (q := 315) C 4 rfl (by decide) (by decide) dX5_go_314 (hU_s _ _ _) rfl ?_
                      rw [hU_2]
                      obtain ⟨g5, hg5⟩ : ∃ g9, g9 = upd g4 4 1 := ⟨_, rfl⟩
                      rw [← hg5]
                      have p0 : g5 0 = nI j2 := by rw [hg5, pk_un (by decide)]; exact r0
                      have p4 : g5 4 = (dM2 (dM1 (dWd (sL S j2) (nI (u - FN)) (nI (v - FN / 2)) (nI wd)) (nI m)) (nSp (sB S) (t * 8 + h))) := by
                        rw [hg5, pk_us, c_307]
                        exact (if_pos ⟨by rw [← r4]; exact c_297, rfl⟩).symm
                      have hvd1 : ((vDay (sE S) (sL S) (sWin S) (nI d) (sB S)) (t * 8 + h)).1 = some j2 := by rw [hvd]
                      have hvd2 : smC j2 ((vDay (sE S) (sL S) (sWin S) (nI d) (sB S)) (t * 8 + h)) g5 := by
                        rw [hvd]
                        exact ⟨p0, by rw [hg5, pk_un (by decide)]; exact r1, by rw [hg5, pk_un (by decide)]; exact r2, by rw [hg5, pk_un (by decide)]; exact r3, p4⟩
                      refine g_iinc5 (q := 318) (1) C dX5_go_315 (by decide) (by first | rfl | exact hNw_rf _) rfl ?_
                      refine g_goto (t := 150) C dX5_go_318 (by decide) ?_
                      rw [nI_1]
                      refine ihc hltc _ _ _ (hk5.put hm5 rfl) ?_
                      rw [show t * 8 + (h + 1) = (t * 8 + h) + 1 from rfl, ← vMix_s]
                      exact hB5.put hixb e_171 hvd1 hvd2
          · skip
            have hltn : n < FN := by rw [hFN]; exact (go_c (t := t) (j := n) e9z (by omega) hwn hd hqw (by omega)).mp (by rw [← eF]; exact Int32.not_lt.mp c_189)
            refine g_aload (q := 194) C dX5_go_192 rfl (by first | exact hRef_r _ | exact hRef_o _ | exact hRef_n) rfl ?_
            refine g_iconst (q := 195) (1) C dX5_go_194 (by decide) rfl ?_
            refine g_iald (q := 196) C 1 rfl (by decide) (by decide) dX5_go_195 (hU_s _ _ _) rfl ?_
            refine g_if_le (t := 207) (q := 199) C dX5_go_196 (by decide) rfl (fun c_196 => ?_) (fun c_196 => ?_)
            · skip
              obtain ⟨g1, hg1⟩ : ∃ g9, g9 = g := ⟨_, rfl⟩
              rw [← hg1]
              have s0 : g1 0 = nI j2 := by rw [hg1]; exact a0
              have s1 : g1 1 = nI (u - (n + 1)) := by
                rw [hg1, a1]
                rw [a1] at c_196
                have : u - n = 0 := by
                  rcases Nat.eq_zero_or_pos (u - n) with z | z
                  · exact z
                  · exact absurd c_196 (nI_nle z (by omega))
                rw [this, show u - (n + 1) = 0 by omega]
              have s2 : g1 2 = nI (v - n / 2) := by rw [hg1]; exact a2
              have s3 : g1 3 = nI wd := by rw [hg1]; exact a3
              have s4 : g1 4 = nI m := by rw [hg1]; exact a4
              refine g_iload (q := 209) C dX5_go_207 rfl rfl ?_
              refine g_iconst (q := 210) (2) C dX5_go_209 (by decide) rfl ?_
              refine g_irem (q := 211) C dX5_go_210 (by decide) rfl ?_
              refine g_if_ne (t := 229) (q := 214) C dX5_go_211 (by decide) rfl (fun c_211 => ?_) (fun c_211 => ?_)
              · skip
                have hod : (n + 1) % 2 ≠ 0 := fun z => c_211 (by rw [show nI (n + 1) - nI (n + 1) / 2 * 2 = nI ((n + 1) % 2) from pk_rem (by omega) (by decide) (by decide), z]; decide)
                obtain ⟨g2, hg2⟩ : ∃ g9, g9 = g1 := ⟨_, rfl⟩
                rw [← hg2]
                have d0 : g2 0 = nI j2 := by rw [hg2]; exact s0
                have d1 : g2 1 = nI (u - (n + 1)) := by rw [hg2]; exact s1
                have d2 : g2 2 = nI (v - (n + 1) / 2) := by
                  rw [hg2, s2, show (n + 1) / 2 = n / 2 by omega]
                have d3 : g2 3 = nI wd := by rw [hg2]; exact s3
                have d4 : g2 4 = nI m := by rw [hg2]; exact s4
                refine g_iinc7 (q := 232) (1) C dX5_go_229 (by decide) (by first | rfl | exact hNw_rf _) rfl ?_
                refine g_goto (t := 180) C dX5_go_232 (by decide) ?_
                rw [nI_1]
                exact ihn hltn g2 d0 d1 d2 d3 d4
              · skip
                have hev : (n + 1) % 2 = 0 := by
                  have z := c_211
                  rw [show nI (n + 1) - nI (n + 1) / 2 * 2 = nI ((n + 1) % 2) from pk_rem (by omega) (by decide) (by decide)] at z
                  exact (nI_eq (a := (n + 1) % 2) (b := 0) (by omega) (by decide)).mp z
                refine g_aload (q := 216) C dX5_go_214 rfl (by first | exact hRef_r _ | exact hRef_o _ | exact hRef_n) rfl ?_
                refine g_iconst (q := 217) (2) C dX5_go_216 (by decide) rfl ?_
                refine g_iald (q := 218) C 2 rfl (by decide) (by decide) dX5_go_217 (hU_s _ _ _) rfl ?_
                refine g_if_le (t := 229) (q := 221) C dX5_go_218 (by decide) rfl (fun c_218 => ?_) (fun c_218 => ?_)
                · skip
                  obtain ⟨g2, hg2⟩ : ∃ g9, g9 = g1 := ⟨_, rfl⟩
                  rw [← hg2]
                  have d0 : g2 0 = nI j2 := by rw [hg2]; exact s0
                  have d1 : g2 1 = nI (u - (n + 1)) := by rw [hg2]; exact s1
                  have d2 : g2 2 = nI (v - (n + 1) / 2) := by
                    rw [hg2, s2]
                    rw [s2] at c_218
                    have : v - n / 2 = 0 := by
                      rcases Nat.eq_zero_or_pos (v - n / 2) with z | z
                      · exact z
                      · exact absurd c_218 (nI_nle z (by omega))
                    rw [this, show v - (n + 1) / 2 = 0 by omega]
                  have d3 : g2 3 = nI wd := by rw [hg2]; exact s3
                  have d4 : g2 4 = nI m := by rw [hg2]; exact s4
                  refine g_iinc7 (q := 232) (1) C dX5_go_229 (by decide) (by first | rfl | exact hNw_rf _) rfl ?_
                  refine g_goto (t := 180) C dX5_go_232 (by decide) ?_
                  rw [nI_1]
                  exact ihn hltn g2 d0 d1 d2 d3 d4
                · skip
                  refine g_aload (q := 223) C dX5_go_221 rfl (by first | exact hRef_r _ | exact hRef_o _ | exact hRef_n) rfl ?_
                  refine g_iconst (q := 224) (2) C dX5_go_223 (by decide) rfl ?_
                  refine g_dup2 (q := 225) C dX5_go_224 rfl rfl rfl ?_
                  refine g_iald (q := 226) C 2 rfl (by decide) (by decide) dX5_go_225 (hU_s _ _ _) rfl ?_
                  refine g_iconst (q := 227) (1) C dX5_go_226 (by decide) rfl ?_
                  refine g_isub (q := 228) C dX5_go_227 rfl ?_
                  refine g_iast (q := 229) C 2 rfl (by decide) (by decide) dX5_go_228 (hU_s _ _ _) rfl ?_
                  rw [hU_2]
                  obtain ⟨g2, hg2⟩ : ∃ g9, g9 = upd g1 2 (g1 2 - 1) := ⟨_, rfl⟩
                  rw [← hg2]
                  have d0 : g2 0 = nI j2 := by rw [hg2, pk_un (by decide)]; exact s0
                  have d1 : g2 1 = nI (u - (n + 1)) := by rw [hg2, pk_un (by decide)]; exact s1
                  have d2 : g2 2 = nI (v - (n + 1) / 2) := by
                    rw [hg2, pk_us, s2]
                    have : ¬ v - n / 2 = 0 := fun z => c_218 (by rw [s2, z]; decide)
                    obtain ⟨r, hr⟩ : ∃ r, v - n / 2 = r + 1 := ⟨v - n / 2 - 1, by omega⟩
                    rw [hr, nI_pred, show v - (n + 1) / 2 = r by omega]
                  have d3 : g2 3 = nI wd := by rw [hg2, pk_un (by decide)]; exact s3
                  have d4 : g2 4 = nI m := by rw [hg2, pk_un (by decide)]; exact s4
                  refine g_iinc7 (q := 232) (1) C dX5_go_229 (by decide) (by first | rfl | exact hNw_rf _) rfl ?_
                  refine g_goto (t := 180) C dX5_go_232 (by decide) ?_
                  rw [nI_1]
                  exact ihn hltn g2 d0 d1 d2 d3 d4
            · skip
              refine g_aload (q := 201) C dX5_go_199 rfl (by first | exact hRef_r _ | exact hRef_o _ | exact hRef_n) rfl ?_
              refine g_iconst (q := 202) (1) C dX5_go_201 (by decide) rfl ?_
              refine g_dup2 (q := 203) C dX5_go_202 rfl rfl rfl ?_
              refine g_iald (q := 204) C 1 rfl (by decide) (by decide) dX5_go_203 (hU_s _ _ _) rfl ?_
              refine g_iconst (q := 205) (1) C dX5_go_204 (by decide) rfl ?_
              refine g_isub (q := 206) C dX5_go_205 rfl ?_
              refine g_iast (q := 207) C 1 rfl (by decide) (by decide) dX5_go_206 (hU_s _ _ _) rfl ?_
              rw [hU_2]
              obtain ⟨g1, hg1⟩ : ∃ g9, g9 = upd g 1 (g 1 - 1) := ⟨_, rfl⟩
              rw [← hg1]
              have s0 : g1 0 = nI j2 := by rw [hg1, pk_un (by decide)]; exact a0
              have s1 : g1 1 = nI (u - (n + 1)) := by
                rw [hg1, pk_us, a1]
                have : ¬ u - n = 0 := fun z => c_196 (by rw [a1, z]; decide)
                obtain ⟨r, hr⟩ : ∃ r, u - n = r + 1 := ⟨u - n - 1, by omega⟩
                rw [hr, nI_pred, show u - (n + 1) = r by omega]
              have s2 : g1 2 = nI (v - n / 2) := by rw [hg1, pk_un (by decide)]; exact a2
              have s3 : g1 3 = nI wd := by rw [hg1, pk_un (by decide)]; exact a3
              have s4 : g1 4 = nI m := by rw [hg1, pk_un (by decide)]; exact a4
              refine g_iload (q := 209) C dX5_go_207 rfl rfl ?_
              refine g_iconst (q := 210) (2) C dX5_go_209 (by decide) rfl ?_
              refine g_irem (q := 211) C dX5_go_210 (by decide) rfl ?_
              refine g_if_ne (t := 229) (q := 214) C dX5_go_211 (by decide) rfl (fun c_211 => ?_) (fun c_211 => ?_)
              · skip
                have hod : (n + 1) % 2 ≠ 0 := fun z => c_211 (by rw [show nI (n + 1) - nI (n + 1) / 2 * 2 = nI ((n + 1) % 2) from pk_rem (by omega) (by decide) (by decide), z]; decide)
                obtain ⟨g2, hg2⟩ : ∃ g9, g9 = g1 := ⟨_, rfl⟩
                rw [← hg2]
                have d0 : g2 0 = nI j2 := by rw [hg2]; exact s0
                have d1 : g2 1 = nI (u - (n + 1)) := by rw [hg2]; exact s1
                have d2 : g2 2 = nI (v - (n + 1) / 2) := by
                  rw [hg2, s2, show (n + 1) / 2 = n / 2 by omega]
                have d3 : g2 3 = nI wd := by rw [hg2]; exact s3
                have d4 : g2 4 = nI m := by rw [hg2]; exact s4
                refine g_iinc7 (q := 232) (1) C dX5_go_229 (by decide) (by first | rfl | exact hNw_rf _) rfl ?_
                refine g_goto (t := 180) C dX5_go_232 (by decide) ?_
                rw [nI_1]
                exact ihn hltn g2 d0 d1 d2 d3 d4
              · skip
                have hev : (n + 1) % 2 = 0 := by
                  have z := c_211
                  rw [show nI (n + 1) - nI (n + 1) / 2 * 2 = nI ((n + 1) % 2) from pk_rem (by omega) (by decide) (by decide)] at z
                  exact (nI_eq (a := (n + 1) % 2) (b := 0) (by omega) (by decide)).mp z
                refine g_aload (q := 216) C dX5_go_214 rfl (by first | exact hRef_r _ | exact hRef_o _ | exact hRef_n) rfl ?_
                refine g_iconst (q := 217) (2) C dX5_go_216 (by decide) rfl ?_
                refine g_iald (q := 218) C 2 rfl (by decide) (by decide) dX5_go_217 (hU_s _ _ _) rfl ?_
                refine g_if_le (t := 229) (q := 221) C dX5_go_218 (by decide) rfl (fun c_218 => ?_) (fun c_218 => ?_)
                · skip
                  obtain ⟨g2, hg2⟩ : ∃ g9, g9 = g1 := ⟨_, rfl⟩
                  rw [← hg2]
                  have d0 : g2 0 = nI j2 := by rw [hg2]; exact s0
                  have d1 : g2 1 = nI (u - (n + 1)) := by rw [hg2]; exact s1
                  have d2 : g2 2 = nI (v - (n + 1) / 2) := by
                    rw [hg2, s2]
                    rw [s2] at c_218
                    have : v - n / 2 = 0 := by
                      rcases Nat.eq_zero_or_pos (v - n / 2) with z | z
                      · exact z
                      · exact absurd c_218 (nI_nle z (by omega))
                    rw [this, show v - (n + 1) / 2 = 0 by omega]
                  have d3 : g2 3 = nI wd := by rw [hg2]; exact s3
                  have d4 : g2 4 = nI m := by rw [hg2]; exact s4
                  refine g_iinc7 (q := 232) (1) C dX5_go_229 (by decide) (by first | rfl | exact hNw_rf _) rfl ?_
                  refine g_goto (t := 180) C dX5_go_232 (by decide) ?_
                  rw [nI_1]
                  exact ihn hltn g2 d0 d1 d2 d3 d4
                · skip
                  refine g_aload (q := 223) C dX5_go_221 rfl (by first | exact hRef_r _ | exact hRef_o _ | exact hRef_n) rfl ?_
                  refine g_iconst (q := 224) (2) C dX5_go_223 (by decide) rfl ?_
                  refine g_dup2 (q := 225) C dX5_go_224 rfl rfl rfl ?_
                  refine g_iald (q := 226) C 2 rfl (by decide) (by decide) dX5_go_225 (hU_s _ _ _) rfl ?_
                  refine g_iconst (q := 227) (1) C dX5_go_226 (by decide) rfl ?_
                  refine g_isub (q := 228) C dX5_go_227 rfl ?_
                  refine g_iast (q := 229) C 2 rfl (by decide) (by decide) dX5_go_228 (hU_s _ _ _) rfl ?_
                  rw [hU_2]
                  obtain ⟨g2, hg2⟩ : ∃ g9, g9 = upd g1 2 (g1 2 - 1) := ⟨_, rfl⟩
                  rw [← hg2]
                  have d0 : g2 0 = nI j2 := by rw [hg2, pk_un (by decide)]; exact s0
                  have d1 : g2 1 = nI (u - (n + 1)) := by rw [hg2, pk_un (by decide)]; exact s1
                  have d2 : g2 2 = nI (v - (n + 1) / 2) := by
                    rw [hg2, pk_us, s2]
                    have : ¬ v - n / 2 = 0 := fun z => c_218 (by rw [s2, z]; decide)
                    obtain ⟨r, hr⟩ : ∃ r, v - n / 2 = r + 1 := ⟨v - n / 2 - 1, by omega⟩
                    rw [hr, nI_pred, show v - (n + 1) / 2 = r by omega]
                  have d3 : g2 3 = nI wd := by rw [hg2, pk_un (by decide)]; exact s3
                  have d4 : g2 4 = nI m := by rw [hg2, pk_un (by decide)]; exact s4
                  refine g_iinc7 (q := 232) (1) C dX5_go_229 (by decide) (by first | rfl | exact hNw_rf _) rfl ?_
                  refine g_goto (t := 180) C dX5_go_232 (by decide) ?_
                  rw [nI_1]
                  exact ihn hltn g2 d0 d1 d2 d3 d4
        · skip
          skip
          refine g_goto (t := 315) C dX5_go_174 (by decide) ?_
          refine g_iinc5 (q := 318) (1) C dX5_go_315 (by decide) (by first | rfl | exact hNw_rf _) rfl ?_
          refine g_goto (t := 150) C dX5_go_318 (by decide) ?_
          rw [nI_1]
          refine ihc hltc M5 _ _ hk5 ?_
          rw [show t * 8 + (h + 1) = (t * 8 + h) + 1 from rfl, vMix_k (show (vDay (sE S) (sL S) (sWin S) (nI d) (sB S)) (t * 8 + h) = sB S (t * 8 + h) from vDay_no (pB.2.1 _ hixb e_171))]
          exact hB5
  · skip
    have hlt := nI_nge_lt ht (by decide) c_22
    obtain ⟨hr1, rf, hr2, hr3⟩ := pRow t hlt
    refine g_iconst (q := 26) (0) C dX5_go_25 (by decide) rfl ?_
    refine g_istore5 (q := 28) C dX5_go_26 (by first | rfl | exact hNw_rf _) rfl ?_
    refine h_loopU (P := fun h => ∀ (M3 : hM) (o6 o7 : Option Value), hKp noF8 Mg M3 → hKp (fun _ => true) M M3 → frP Γ M3 fb nb S (nI d) (t * 8 + h) → hG Γ k9 _ _ M3 12 90 28 [some (.ref x), some (.int (nI d)), some (.ref fb), some (.ref nb), some (.int (nI t)), some (.int (nI h)), o6, o7] []) (N := 8) (fun h hh ih2 => ?_) 0 (Nat.zero_le _) M2 _ _ hk2 hkA hf2
    intro M3 o6b o7b hk3 hkM hf3
    have hQ3 := hQ.kp hkM simK_all hn6 ho6
    refine g_iload (q := 30) C dX5_go_28 rfl rfl ?_
    refine g_bipush (q := 32) (8) C dX5_go_30 (by decide) rfl ?_
    refine g_icmp_ge (t := 132) (q := 35) C dX5_go_32 (by decide) rfl (fun c_32 => ?_) (fun c_32 => ?_)
    · skip
      have hN2 := nI_ge_eq hh (by decide) c_32
      subst hN2
      refine g_iinc4 (q := 135) (1) C dX5_go_132 (by decide) (by first | rfl | exact hNw_rf _) rfl ?_
      refine g_goto (t := 19) C dX5_go_135 (by decide) ?_
      rw [nI_1]
      have hgo := ih hlt M3 (some (.int (nI 8))) o6b o7b hk3 hkM
      rw [Nat.succ_mul] at hgo
      exact hgo hf3
    · skip
      have hlt2 := nI_nge_lt hh (by decide) c_32
      have hix : t * 8 + h < 40 := by omega
      refine g_aload_n (q := 36) C dX5_go_35 rfl (by first | exact hRef_r _ | exact hRef_o _ | exact hRef_n) rfl ?_
      refine g_get (q := 39) C hcl_X5 5 (by decide) qw_644 rfl dX5_go_36 (by exact hkM _ _ _ pX rfl) rfl rfl ?_
      refine g_iload (q := 41) C dX5_go_39 rfl rfl ?_
      refine g_aaldRR (q := 42) C t rfl hlt (by decide) dX5_go_41 (hkM _ _ _ pLf rfl) hr1 rfl ?_
      refine g_iload (q := 44) C dX5_go_42 rfl rfl ?_
      refine g_aaldR (q := 45) C h rfl hlt2 (by omega) dX5_go_44 (hkM _ _ _ hr2 rfl) (congrArg va_rf (hr3 h hlt2)) rfl ?_
      refine g_ifnonnull (t := 51) (q := 48) C dX5_go_45 (by decide) rfl (fun y_45 e_45 => ?_) (fun e_45 => ?_)
      · skip
        obtain ⟨j2, f9, tk2, hm2, q0, q1, q2, q3, q4⟩ := pB.of hix e_45
        have tk : (sB S (t * 8 + h)).1.isSome = true := by rw [tk2]; rfl
        have hj2 : j2 < sN S := ((hI.2.2.2.1 _ hix).tk tk2).1
        obtain ⟨aH, fH, z1, z2, z3, z4⟩ := pHr j2 hj2
        obtain ⟨F, hF1, hF2⟩ := hf3.1 t hlt
        obtain ⟨N, hN0, hN2⟩ := hf3.2 t hlt
        have hwe : nrS 1 (sB S) (t * 8 + h) 2 = wets (sB S) (t * 8 + h) := nrS_1 _ _
        have hxv : fH 0 + nI t + sWin S + sWin S - nI d - nrS 1 (sB S) (t * 8 + h) 2 = sFo (sE S j2) t (sWin S) (nI d) (wets (sB S) (t * 8 + h)) := by rw [z3, hwe]; rfl
        obtain ⟨x9, hx9⟩ : ∃ x9, x9 = fH 0 + nI t + sWin S + sWin S - nI d - nrS 1 (sB S) (t * 8 + h) 2 := ⟨_, rfl⟩
        have hN1 : hU M3 (fb + 1 + t) (aI Γ 8 (upd F h (fH 0 + nI t + sWin S + sWin S - nI d - nrS 1 (sB S) (t * 8 + h) 2))) (nb + 1 + t) = some (true, aZ Γ 8 N) := (hU_n (Ne.symm (hne t t hlt hlt))).trans hN0
        have hS4 := (hQ.kp (hkM.old (e2 t hlt)) simK_all hn6 ho6 : smQ Γ (hU M3 (fb + 1 + t) (aI Γ 8 (upd F h (fH 0 + nI t + sWin S + sWin S - nI d - nrS 1 (sB S) (t * 8 + h) 2)))) x S ha oa la ob rx bd)
        refine g_aload_n (q := 52) C dX5_go_51 rfl (by first | exact hRef_r _ | exact hRef_o _ | exact hRef_n) rfl ?_
        refine g_iload (q := 54) C dX5_go_52 rfl rfl ?_
        refine g_aaldR (q := 55) C t rfl hlt (by omega) dX5_go_54 (hk3 _ _ _ F0 rfl) (congrArg va_rf (if_pos hlt)) rfl ?_
        refine g_iload (q := 57) C dX5_go_55 rfl rfl ?_
        refine g_aload_n (q := 58) C dX5_go_57 rfl (by first | exact hRef_r _ | exact hRef_o _ | exact hRef_n) rfl ?_
        refine g_get (q := 61) C hcl_X5 3 (by decide) qw_640 rfl dX5_go_58 (by exact hkM _ _ _ pX rfl) rfl rfl ?_
        refine g_aload_n (q := 62) C dX5_go_61 rfl (by first | exact hRef_r _ | exact hRef_o _ | exact hRef_n) rfl ?_
        refine g_get (q := 65) C hcl_X5 5 (by decide) qw_644 rfl dX5_go_62 (by exact hkM _ _ _ pX rfl) rfl rfl ?_
        refine g_iload (q := 67) C dX5_go_65 rfl rfl ?_
        refine g_aaldRR (q := 68) C t rfl hlt (by decide) dX5_go_67 (hkM _ _ _ pLf rfl) hr1 rfl ?_
        refine g_iload (q := 70) C dX5_go_68 rfl rfl ?_
        refine g_aaldR (q := 71) C h rfl hlt2 (by omega) dX5_go_70 (hkM _ _ _ hr2 rfl) (congrArg va_rf ((hr3 h hlt2).trans e_45)) rfl ?_
        refine g_iconst (q := 72) (0) C dX5_go_71 (by decide) rfl ?_
        refine g_iald (q := 73) C 0 rfl (by omega) (by omega) dX5_go_72 (hkM _ _ _ hm2 rfl) rfl ?_
        refine g_aaldR (q := 74) C j2 q0 hj2 (by omega) dX5_go_73 (hkM _ _ _ pHa rfl) (congrArg va_rf z1) rfl ?_
        refine g_iconst (q := 75) (0) C dX5_go_74 (by decide) rfl ?_
        refine g_iald (q := 76) C 0 rfl (by omega) (by omega) dX5_go_75 (hkM _ _ _ z2 rfl) rfl ?_
        refine g_iload (q := 78) C dX5_go_76 rfl rfl ?_
        refine g_iadd (q := 79) C dX5_go_78 rfl ?_
        refine g_aload_n (q := 80) C dX5_go_79 rfl (by first | exact hRef_r _ | exact hRef_o _ | exact hRef_n) rfl ?_
        refine g_get (q := 83) C hcl_X5 1 (by decide) qw_638 rfl dX5_go_80 (by exact hkM _ _ _ pX rfl) rfl rfl ?_
        refine g_iadd (q := 84) C dX5_go_83 rfl ?_
        refine g_aload_n (q := 85) C dX5_go_84 rfl (by first | exact hRef_r _ | exact hRef_o _ | exact hRef_n) rfl ?_
        refine g_get (q := 88) C hcl_X5 1 (by decide) qw_638 rfl dX5_go_85 (by exact hkM _ _ _ pX rfl) rfl rfl ?_
        refine g_iadd (q := 89) C dX5_go_88 rfl ?_
        refine g_iload_n (q := 90) C dX5_go_89 rfl rfl ?_
        refine g_isub (q := 91) C dX5_go_90 rfl ?_
        refine g_aload_n (q := 92) C dX5_go_91 rfl (by first | exact hRef_r _ | exact hRef_o _ | exact hRef_n) rfl ?_
        refine g_iload (q := 94) C dX5_go_92 rfl rfl ?_
        refine g_iload (q := 96) C dX5_go_94 rfl rfl ?_
        refine g_iconst (q := 97) (1) C dX5_go_96 (by decide) rfl ?_
        refine g_callV3P (q := 100) C hy_X5_near (c_X5_near Γ l (t := t) (c := h) (w := 1) hQ3.P hlt hlt2 (by decide) (fun _ => tk)) qw_469 (by exact hkM _ _ _ pX rfl) rfl ⟨Nat.le_of_ble_eq_true rfl, Nat.le_of_ble_eq_true rfl⟩ (Nat.le_of_ble_eq_true rfl) rfl dX5_go_97 ⟨rfl, rfl⟩ ⟨by decide, by decide⟩ rfl ?_
        refine g_isub (q := 101) C dX5_go_100 rfl ?_
        refine g_iast (q := 102) C h rfl hlt2 (by decide) dX5_go_101 (hF1) rfl ?_
        refine g_aload_n (q := 103) C dX5_go_102 rfl (by first | exact hRef_r _ | exact hRef_o _ | exact hRef_n) rfl ?_
        refine g_iload (q := 105) C dX5_go_103 rfl rfl ?_
        refine g_aaldRZ (q := 106) C t rfl hlt (by decide) dX5_go_105 ((hk3.put hF1 rfl) _ _ _ N0 rfl) (congrArg va_rf (if_pos hlt)) rfl ?_
        refine g_iload (q := 108) C dX5_go_106 rfl rfl ?_
        refine g_aload_n (q := 109) C dX5_go_108 rfl (by first | exact hRef_r _ | exact hRef_o _ | exact hRef_n) rfl ?_
        refine g_iload (q := 111) C dX5_go_109 rfl rfl ?_
        refine g_iload (q := 113) C dX5_go_111 rfl rfl ?_
        refine g_iconst (q := 114) (2) C dX5_go_113 (by decide) rfl ?_
        refine g_callV3P (q := 117) C hy_X5_near (c_X5_near Γ l (t := t) (c := h) (w := 2) hS4.P hlt hlt2 (by decide) (fun q => absurd q (by decide))) qw_469 (by exact hS4.1) rfl ⟨Nat.le_of_ble_eq_true rfl, Nat.le_of_ble_eq_true rfl⟩ (Nat.le_of_ble_eq_true rfl) rfl dX5_go_114 ⟨rfl, rfl⟩ ⟨by decide, by decide⟩ rfl ?_
        refine g_if_le (t := 124) (q := 120) C dX5_go_117 (by decide) rfl (fun c_117 => ?_) (fun c_117 => ?_)
        · skip
          refine g_iconst (q := 125) (0) C dX5_go_124 (by decide) rfl ?_
          refine g_zast (q := 126) C h rfl hlt2 (by decide) rfl dX5_go_125 (hN1) rfl ?_
          refine g_iinc5 (q := 129) (1) C dX5_go_126 (by decide) (by first | rfl | exact hNw_rf _) rfl ?_
          refine g_goto (t := 28) C dX5_go_129 (by decide) ?_
          rw [nI_1]
          refine ih2 hlt2 _ _ _ ((hk3.put hF1 rfl).put hN1 rfl) ((hkM.old (e2 t hlt)).old (hnn t hlt)) ?_
          exact hf3.step hlt hlt2 hne hF1 hN0 tk2 hxv (by rw [show nSp (sB S) (t * 8 + h) = false from Bool.eq_false_iff.mpr (fun q => Int32.not_lt.mpr c_117 ((nrS_2 _ _).mpr q))]; rfl) hF2 hN2
        · skip
          refine g_iconst (q := 121) (1) C dX5_go_120 (by decide) rfl ?_
          refine g_goto (t := 125) C dX5_go_121 (by decide) ?_
          refine g_zast (q := 126) C h rfl hlt2 (by decide) rfl dX5_go_125 (hN1) rfl ?_
          refine g_iinc5 (q := 129) (1) C dX5_go_126 (by decide) (by first | rfl | exact hNw_rf _) rfl ?_
          refine g_goto (t := 28) C dX5_go_129 (by decide) ?_
          rw [nI_1]
          refine ih2 hlt2 _ _ _ ((hk3.put hF1 rfl).put hN1 rfl) ((hkM.old (e2 t hlt)).old (hnn t hlt)) ?_
          exact hf3.step hlt hlt2 hne hF1 hN0 tk2 hxv (by rw [show nSp (sB S) (t * 8 + h) = true from (nrS_2 _ _).mp (Int32.not_le.mp c_117)]; rfl) hF2 hN2
      · skip
        skip
        refine g_goto (t := 126) C dX5_go_48 (by decide) ?_
        refine g_iinc5 (q := 129) (1) C dX5_go_126 (by decide) (by first | rfl | exact hNw_rf _) rfl ?_
        refine g_goto (t := 28) C dX5_go_129 (by decide) ?_
        rw [nI_1]
        exact ih2 hlt2 M3 _ _ hk3 hkM (hf3.skip (pB.2.1 _ hix e_45))
