set_option maxRecDepth 100000 in
set_option maxHeartbeats 4000000 in
theorem c_X4_digest (Γ : hGam) (l : Launch) {M : hM} {x : Nat} {S : hS} (hL0 : ltP Γ M x S) (hI : sInv S) : hMet Γ l yX4_digest cX4_digest 6 (some .long) rm_X4_digest [.ref x] M (hpL (fun a M1 => a = sDig S ∧ M1 = M)) := by
  obtain ⟨hl9, ol, rk, tr, edh, edo, hb, ob, hk, hk2, V, V2, g0, hL⟩ := id hL0
  have hLc := hL
  obtain ⟨pL, pT, pH, pO, nHO, nED, pR, pR2, nHK, hRV⟩ := hLc
  obtain ⟨pRs, FS, pF⟩ := pR
  obtain ⟨pRs2, FS2, pF2⟩ := pR2
  have hn6 := hI.1
  have ho6 := hI.2.1
  refine hMet_of (by decide +kernel) (Nat.le_of_ble_eq_true rfl) (hCat_cons rfl hCat_nil) (fun k C => ?_)
  show hG _ _ _ _ _ _ _ _ [some (.ref x), none, none, none, none, none] _
  refine g_ldc2 (q := 3) C dX4_digest_0 qw_455 rfl ?_
  refine g_lstore1 (q := 4) C dX4_digest_3 (by first | rfl | exact hNw_rf _) rfl ?_
  refine g_iconst (q := 5) (0) C dX4_digest_4 (by decide) rfl ?_
  refine g_istore3 (q := 6) C dX4_digest_5 (by first | rfl | exact hNw_rf _) rfl ?_
  refine h_loopU (P := fun w => ∀ (da : Int64) (o4 : Option Value) (o5 : Option Value), da = hIt (fun w d => dgS (cnI S (nI w)) d) 1831 w → hG Γ k _ _ M 0 0 6 [some (.ref x), some (.long da), none, some (.int (nI w)), o4, o5] []) (N := 9) (fun w h_da ih_da => ?_) 0 (Nat.zero_le _) _ _ _ (hIt_0 _ _).symm
  intro da o4 o5 e_da
  refine g_iload_n (q := 7) C dX4_digest_6 rfl rfl ?_
  refine g_bipush (q := 9) (8) C dX4_digest_7 (by decide) rfl ?_
  refine g_icmp_gt (t := 31) (q := 12) C dX4_digest_9 (by decide) rfl (fun c_9 => ?_) (fun c_9 => ?_)
  · skip
    have hN_da := nI_gt_eq h_da (by omega) c_9
    subst hN_da
    refine g_iconst (q := 32) (0) C dX4_digest_31 (by decide) rfl ?_
    refine g_istore3 (q := 33) C dX4_digest_32 (by first | rfl | exact hNw_rf _) rfl ?_
    refine h_loopU (P := fun h => ∀ (db : Int64) (o4 : Option Value) (o5 : Option Value), db = hIt (fun h d => hIt (fun w d => dgS (abI S h (nI w)) d) d 5) (hIt (fun w d => dgS (cnI S (nI w)) d) 1831 9) h → hG Γ k _ _ M 0 0 33 [some (.ref x), some (.long db), none, some (.int (nI h)), o4, o5] []) (N := (sN S)) (fun h h_db ih_db => ?_) 0 (Nat.zero_le _) _ _ _ (by rw [hIt_0]; exact e_da)
    intro db o4 o5 e_db
    refine g_iload_n (q := 34) C dX4_digest_33 rfl rfl ?_
    refine g_aload_n (q := 35) C dX4_digest_34 rfl (by first | exact hRef_r _ | exact hRef_o _ | exact hRef_n) rfl ?_
    refine g_get (q := 38) C hcl_X4 0 (by decide) qw_116 rfl dX4_digest_35 (by exact pL) rfl rfl ?_
    refine g_callV0P (q := 41) C hy_Jx4a65c_size_8abf5 (c_Jx4a65c_size_8abf5 Γ l pH.1) qw_271 (by exact pH.1.choose_spec.choose_spec.choose_spec.choose_spec.1) rfl ⟨Nat.le_of_ble_eq_true rfl, Nat.le_of_ble_eq_true rfl⟩ (Nat.le_of_ble_eq_true rfl) rfl dX4_digest_38 ⟨rfl, rfl⟩ ⟨Nat.zero_le _, Nat.zero_le _⟩ rfl ?_
    refine g_icmp_ge (t := 80) (q := 44) C dX4_digest_41 (by decide) rfl (fun c_41 => ?_) (fun c_41 => ?_)
    · skip
      have hN_db := nI_ge_eq h_db (by omega) c_41
      subst hN_db
      refine g_iconst (q := 81) (0) C dX4_digest_80 (by decide) rfl ?_
      refine g_istore3 (q := 82) C dX4_digest_81 (by first | rfl | exact hNw_rf _) rfl ?_
      refine h_loopU (P := fun o => ∀ (dd : Int64) (o4 : Option Value) (o5 : Option Value), dd = hIt (fun o d => hIt (fun w d => dgS (asI S o (nI w)) d) d 5) (hIt (fun h d => hIt (fun w d => dgS (abI S h (nI w)) d) d 5) (hIt (fun w d => dgS (cnI S (nI w)) d) 1831 9) (sN S)) o → hG Γ k _ _ M 0 0 82 [some (.ref x), some (.long dd), none, some (.int (nI o)), o4, o5] []) (N := (sO S)) (fun o h_dd ih_dd => ?_) 0 (Nat.zero_le _) _ _ _ (by rw [hIt_0]; exact e_db)
      intro dd o4 o5 e_dd
      refine g_iload_n (q := 83) C dX4_digest_82 rfl rfl ?_
      refine g_aload_n (q := 84) C dX4_digest_83 rfl (by first | exact hRef_r _ | exact hRef_o _ | exact hRef_n) rfl ?_
      refine g_get (q := 87) C hcl_X4 1 (by decide) qw_117 rfl dX4_digest_84 (by exact pL) rfl rfl ?_
      refine g_callV0P (q := 90) C hy_Jx4a65c_size_8abf5 (c_Jx4a65c_size_8abf5 Γ l pO.1) qw_271 (by exact pO.1.choose_spec.choose_spec.choose_spec.choose_spec.1) rfl ⟨Nat.le_of_ble_eq_true rfl, Nat.le_of_ble_eq_true rfl⟩ (Nat.le_of_ble_eq_true rfl) rfl dX4_digest_87 ⟨rfl, rfl⟩ ⟨Nat.zero_le _, Nat.zero_le _⟩ rfl ?_
      refine g_icmp_ge (t := 129) (q := 93) C dX4_digest_90 (by decide) rfl (fun c_90 => ?_) (fun c_90 => ?_)
      · skip
        have hN_dd := nI_ge_eq h_dd (by omega) c_90
        subst hN_dd
        refine g_iconst (q := 130) (0) C dX4_digest_129 (by decide) rfl ?_
        refine g_istore3 (q := 131) C dX4_digest_130 (by first | rfl | exact hNw_rf _) rfl ?_
        refine h_loopU (P := fun s => ∀ (df : Int64) (o4 : Option Value) (o5 : Option Value), df = hIt (fun s d => hIt (fun h d => hIt (fun w d => dgS (tellI (sB S) (s * 8 + h) (nI w)) d) d 6) d 8) (hIt (fun o d => hIt (fun w d => dgS (asI S o (nI w)) d) d 5) (hIt (fun h d => hIt (fun w d => dgS (abI S h (nI w)) d) d 5) (hIt (fun w d => dgS (cnI S (nI w)) d) 1831 9) (sN S)) (sO S)) s → hG Γ k _ _ M 0 0 131 [some (.ref x), some (.long df), none, some (.int (nI s)), o4, o5] []) (N := 5) (fun s h_df ih_df => ?_) 0 (Nat.zero_le _) _ _ _ (by rw [hIt_0]; exact e_dd)
        intro df o4 o5 e_df
        refine g_iload_n (q := 132) C dX4_digest_131 rfl rfl ?_
        refine g_iconst (q := 133) (5) C dX4_digest_132 (by decide) rfl ?_
        refine g_icmp_ge (t := 190) (q := 136) C dX4_digest_133 (by decide) rfl (fun c_133 => ?_) (fun c_133 => ?_)
        · skip
          have hN_df := nI_ge_eq h_df (by omega) c_133
          subst hN_df
          refine g_lload_n (q := 191) C dX4_digest_190 rfl rfl ?_
          exact g_lret C dX4_digest_191 (⟨e_df, rfl⟩) (Nat.zero_le _) (Nat.zero_le _)
        · skip
          have hlt_df := nI_nge_lt h_df (by omega) c_133
          refine g_iconst (q := 137) (0) C dX4_digest_136 (by decide) rfl ?_
          refine g_istore4 (q := 139) C dX4_digest_137 (by first | rfl | exact hNw_rf _) rfl ?_
          refine h_loopU (P := fun h => ∀ (dg : Int64) (o5 : Option Value), dg = hIt (fun h d => hIt (fun w d => dgS (tellI (sB S) (s * 8 + h) (nI w)) d) d 6) df h → hG Γ k _ _ M 0 0 139 [some (.ref x), some (.long dg), none, some (.int (nI s)), some (.int (nI h)), o5] []) (N := 8) (fun h h_dg ih_dg => ?_) 0 (Nat.zero_le _) _ _ (hIt_0 _ _).symm
          intro dg o5 e_dg
          refine g_iload (q := 141) C dX4_digest_139 rfl rfl ?_
          refine g_bipush (q := 143) (8) C dX4_digest_141 (by decide) rfl ?_
          refine g_icmp_ge (t := 184) (q := 146) C dX4_digest_143 (by decide) rfl (fun c_143 => ?_) (fun c_143 => ?_)
          · skip
            have hN_dg := nI_ge_eq h_dg (by omega) c_143
            subst hN_dg
            refine g_iinc3 (q := 187) (1) C dX4_digest_184 (by decide) (by first | rfl | exact hNw_rf _) rfl ?_
            refine g_goto (t := 131) C dX4_digest_187 (by decide) ?_
            rw [nI_1]
            refine ih_df hlt_df _ _ _ ?_
            rw [hIt_s, ← e_df]
            exact e_dg
          · skip
            have hlt_dg := nI_nge_lt h_dg (by omega) c_143
            refine g_iconst (q := 147) (0) C dX4_digest_146 (by decide) rfl ?_
            refine g_istore5 (q := 149) C dX4_digest_147 (by first | rfl | exact hNw_rf _) rfl ?_
            refine h_loopU (P := fun w => ∀ (dh : Int64) , dh = hIt (fun w d => dgS (tellI (sB S) (s * 8 + h) (nI w)) d) dg w → hG Γ k _ _ M 0 0 149 [some (.ref x), some (.long dh), none, some (.int (nI s)), some (.int (nI h)), some (.int (nI w))] []) (N := 6) (fun w h_dh ih_dh => ?_) 0 (Nat.zero_le _) _  (hIt_0 _ _).symm
            intro dh  e_dh
            refine g_iload (q := 151) C dX4_digest_149 rfl rfl ?_
            refine g_iconst (q := 152) (5) C dX4_digest_151 (by decide) rfl ?_
            refine g_icmp_gt (t := 178) (q := 155) C dX4_digest_152 (by decide) rfl (fun c_152 => ?_) (fun c_152 => ?_)
            · skip
              have hN_dh := nI_gt_eq h_dh (by omega) c_152
              subst hN_dh
              refine g_iinc4 (q := 181) (1) C dX4_digest_178 (by decide) (by first | rfl | exact hNw_rf _) rfl ?_
              refine g_goto (t := 139) C dX4_digest_181 (by decide) ?_
              rw [nI_1]
              refine ih_dg hlt_dg _ _ ?_
              rw [hIt_s, ← e_dg]
              exact e_dh
            · skip
              have hlt_dh := nI_ngt_lt h_dh (by omega) c_152
              refine g_lload_n (q := 156) C dX4_digest_155 rfl rfl ?_
              refine g_ldc2 (q := 159) C dX4_digest_156 qw_456 rfl ?_
              refine g_lmul (q := 160) C dX4_digest_159 rfl ?_
              refine g_aload_n (q := 161) C dX4_digest_160 rfl (by first | exact hRef_r _ | exact hRef_o _ | exact hRef_n) rfl ?_
              refine g_iload_n (q := 162) C dX4_digest_161 rfl rfl ?_
              refine g_iload (q := 164) C dX4_digest_162 rfl rfl ?_
              refine g_iload (q := 166) C dX4_digest_164 rfl rfl ?_
              refine g_callV3P (q := 169) C hy_X4_told (c_X4_told_n Γ l (nI s) (nI h) (nI w) hL0 hI (by rw [sTold_ok hlt_df hlt_dg hlt_dh])) qw_460 (by exact pL) rfl ⟨Nat.le_of_ble_eq_true rfl, Nat.le_of_ble_eq_true rfl⟩ (Nat.le_of_ble_eq_true rfl) rfl dX4_digest_166 ⟨rfl, rfl⟩ ⟨Nat.zero_le _, Nat.zero_le _⟩ rfl ?_
              refine g_i2l (q := 170) C dX4_digest_169 rfl ?_
              refine g_ladd (q := 171) C dX4_digest_170 rfl ?_
              refine g_lstore1 (q := 172) C dX4_digest_171 (by first | rfl | exact hNw_rf _) rfl ?_
              refine g_iinc5 (q := 175) (1) C dX4_digest_172 (by decide) (by first | rfl | exact hNw_rf _) rfl ?_
              refine g_goto (t := 149) C dX4_digest_175 (by decide) ?_
              rw [nI_1]
              refine ih_dh hlt_dh _  ?_
              rw [hIt_s, ← e_dh, sTold_ok hlt_df hlt_dg hlt_dh]
              rfl
      · skip
        have hlt_dd := nI_nge_lt h_dd (by omega) c_90
        refine g_iconst (q := 94) (0) C dX4_digest_93 (by decide) rfl ?_
        refine g_istore4 (q := 96) C dX4_digest_94 (by first | rfl | exact hNw_rf _) rfl ?_
        refine h_loopU (P := fun w => ∀ (de : Int64) (o5 : Option Value), de = hIt (fun w d => dgS (asI S o (nI w)) d) dd w → hG Γ k _ _ M 0 0 96 [some (.ref x), some (.long de), none, some (.int (nI o)), some (.int (nI w)), o5] []) (N := 5) (fun w h_de ih_de => ?_) 0 (Nat.zero_le _) _ _ (hIt_0 _ _).symm
        intro de o5 e_de
        refine g_iload (q := 98) C dX4_digest_96 rfl rfl ?_
        refine g_iconst (q := 99) (4) C dX4_digest_98 (by decide) rfl ?_
        refine g_icmp_gt (t := 123) (q := 102) C dX4_digest_99 (by decide) rfl (fun c_99 => ?_) (fun c_99 => ?_)
        · skip
          have hN_de := nI_gt_eq h_de (by omega) c_99
          subst hN_de
          refine g_iinc3 (q := 126) (1) C dX4_digest_123 (by decide) (by first | rfl | exact hNw_rf _) rfl ?_
          refine g_goto (t := 82) C dX4_digest_126 (by decide) ?_
          rw [nI_1]
          refine ih_dd hlt_dd _ _ _ ?_
          rw [hIt_s, ← e_dd]
          exact e_de
        · skip
          have hlt_de := nI_ngt_lt h_de (by omega) c_99
          refine g_lload_n (q := 103) C dX4_digest_102 rfl rfl ?_
          refine g_ldc2 (q := 106) C dX4_digest_103 qw_456 rfl ?_
          refine g_lmul (q := 107) C dX4_digest_106 rfl ?_
          refine g_aload_n (q := 108) C dX4_digest_107 rfl (by first | exact hRef_r _ | exact hRef_o _ | exact hRef_n) rfl ?_
          refine g_iload_n (q := 109) C dX4_digest_108 rfl rfl ?_
          refine g_iload (q := 111) C dX4_digest_109 rfl rfl ?_
          refine g_callV2P (q := 114) C hy_X4_asked (c_X4_asked_n Γ l (nI o) (nI w) hL0 hI (by rw [sAsked_ok hI.2.1 hlt_dd hlt_de])) qw_459 (by exact pL) rfl ⟨Nat.le_of_ble_eq_true rfl, Nat.le_of_ble_eq_true rfl⟩ (Nat.le_of_ble_eq_true rfl) rfl dX4_digest_111 ⟨rfl, rfl⟩ ⟨Nat.zero_le _, Nat.zero_le _⟩ rfl ?_
          refine g_i2l (q := 115) C dX4_digest_114 rfl ?_
          refine g_ladd (q := 116) C dX4_digest_115 rfl ?_
          refine g_lstore1 (q := 117) C dX4_digest_116 (by first | rfl | exact hNw_rf _) rfl ?_
          refine g_iinc4 (q := 120) (1) C dX4_digest_117 (by decide) (by first | rfl | exact hNw_rf _) rfl ?_
          refine g_goto (t := 96) C dX4_digest_120 (by decide) ?_
          rw [nI_1]
          refine ih_de hlt_de _ _ ?_
          rw [hIt_s, ← e_de, sAsked_ok hI.2.1 hlt_dd hlt_de]
          rfl
    · skip
      have hlt_db := nI_nge_lt h_db (by omega) c_41
      refine g_iconst (q := 45) (0) C dX4_digest_44 (by decide) rfl ?_
      refine g_istore4 (q := 47) C dX4_digest_45 (by first | rfl | exact hNw_rf _) rfl ?_
      refine h_loopU (P := fun w => ∀ (dc : Int64) (o5 : Option Value), dc = hIt (fun w d => dgS (abI S h (nI w)) d) db w → hG Γ k _ _ M 0 0 47 [some (.ref x), some (.long dc), none, some (.int (nI h)), some (.int (nI w)), o5] []) (N := 5) (fun w h_dc ih_dc => ?_) 0 (Nat.zero_le _) _ _ (hIt_0 _ _).symm
      intro dc o5 e_dc
      refine g_iload (q := 49) C dX4_digest_47 rfl rfl ?_
      refine g_iconst (q := 50) (4) C dX4_digest_49 (by decide) rfl ?_
      refine g_icmp_gt (t := 74) (q := 53) C dX4_digest_50 (by decide) rfl (fun c_50 => ?_) (fun c_50 => ?_)
      · skip
        have hN_dc := nI_gt_eq h_dc (by omega) c_50
        subst hN_dc
        refine g_iinc3 (q := 77) (1) C dX4_digest_74 (by decide) (by first | rfl | exact hNw_rf _) rfl ?_
        refine g_goto (t := 33) C dX4_digest_77 (by decide) ?_
        rw [nI_1]
        refine ih_db hlt_db _ _ _ ?_
        rw [hIt_s, ← e_db]
        exact e_dc
      · skip
        have hlt_dc := nI_ngt_lt h_dc (by omega) c_50
        refine g_lload_n (q := 54) C dX4_digest_53 rfl rfl ?_
        refine g_ldc2 (q := 57) C dX4_digest_54 qw_456 rfl ?_
        refine g_lmul (q := 58) C dX4_digest_57 rfl ?_
        refine g_aload_n (q := 59) C dX4_digest_58 rfl (by first | exact hRef_r _ | exact hRef_o _ | exact hRef_n) rfl ?_
        refine g_iload_n (q := 60) C dX4_digest_59 rfl rfl ?_
        refine g_iload (q := 62) C dX4_digest_60 rfl rfl ?_
        refine g_callV2P (q := 65) C hy_X4_about (c_X4_about_n Γ l (nI h) (nI w) hL0 hI (by rw [sAbout_ok hI.1 hlt_db hlt_dc])) qw_458 (by exact pL) rfl ⟨Nat.le_of_ble_eq_true rfl, Nat.le_of_ble_eq_true rfl⟩ (Nat.le_of_ble_eq_true rfl) rfl dX4_digest_62 ⟨rfl, rfl⟩ ⟨Nat.zero_le _, Nat.zero_le _⟩ rfl ?_
        refine g_i2l (q := 66) C dX4_digest_65 rfl ?_
        refine g_ladd (q := 67) C dX4_digest_66 rfl ?_
        refine g_lstore1 (q := 68) C dX4_digest_67 (by first | rfl | exact hNw_rf _) rfl ?_
        refine g_iinc4 (q := 71) (1) C dX4_digest_68 (by decide) (by first | rfl | exact hNw_rf _) rfl ?_
        refine g_goto (t := 47) C dX4_digest_71 (by decide) ?_
        rw [nI_1]
        refine ih_dc hlt_dc _ _ ?_
        rw [hIt_s, ← e_dc, sAbout_ok hI.1 hlt_db hlt_dc]
        rfl
  · skip
    have hlt_da := nI_ngt_lt h_da (by omega) c_9
    refine g_lload_n (q := 13) C dX4_digest_12 rfl rfl ?_
    refine g_ldc2 (q := 16) C dX4_digest_13 qw_456 rfl ?_
    refine g_lmul (q := 17) C dX4_digest_16 rfl ?_
    refine g_aload_n (q := 18) C dX4_digest_17 rfl (by first | exact hRef_r _ | exact hRef_o _ | exact hRef_n) rfl ?_
    refine g_iload_n (q := 19) C dX4_digest_18 rfl rfl ?_
    refine g_callV1P (q := 22) C hy_X4_count (c_X4_count_n Γ l (nI w) hL0 hI (by rw [sCount_ok hlt_da])) qw_457 (by exact pL) rfl ⟨Nat.le_of_ble_eq_true rfl, Nat.le_of_ble_eq_true rfl⟩ (Nat.le_of_ble_eq_true rfl) rfl dX4_digest_19 ⟨rfl, rfl⟩ ⟨Nat.zero_le _, Nat.zero_le _⟩ rfl ?_
    refine g_i2l (q := 23) C dX4_digest_22 rfl ?_
    refine g_ladd (q := 24) C dX4_digest_23 rfl ?_
    refine g_lstore1 (q := 25) C dX4_digest_24 (by first | rfl | exact hNw_rf _) rfl ?_
    refine g_iinc3 (q := 28) (1) C dX4_digest_25 (by decide) (by first | rfl | exact hNw_rf _) rfl ?_
    refine g_goto (t := 6) C dX4_digest_28 (by decide) ?_
    rw [nI_1]
    refine ih_da hlt_da _ _ _ ?_
    rw [hIt_s, ← e_da, sCount_ok hlt_da]
    rfl
