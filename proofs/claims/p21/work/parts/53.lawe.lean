set_option maxRecDepth 100000 in
set_option maxHeartbeats 8000000 in
theorem law_874 {Γ : hGam} {l : Launch} {k9 : hCtx} {nm : String} {A : Nat → Prop} {Q : State → Prop} (C : hC Γ l k9 RL nm cL_law 24 (some .boolean) room_1 A) (hl : l.stackTraces = false) {x y D : Nat} {S : hS} {M : hM} {n z tm b ta d : Nat} {xv c8 c9 c10 c11 c12 c13 c14 c15 c16 c17 : Int32} {dg : Int64} (hn : n + 1000 ≤ 893913) (hz : z + 10000 ≤ 6419885) (hI : sI2 S D) (hD : D < 1000000) (hd : d ≤ 9) (hLS : lawS Γ M x y (sGo S (nI d)) (D + 1)) (hT : tdP Γ M ta (sB S)) (o18 o19 o20 o21 o22 o23 : Option Value) (kk : ∀ (M1 : hM) (p18 p19 p20 p21 : Option Value), lawS Γ M1 x y (sGo S (nI d)) (D + 1) → hG Γ k9 A Q M1 (n + 40) (z + 240) 1168 [some (.ref b), some (.ref x), some (.ref y), some (.int (nI tm)), some (.int xv), some (.long dg), none, some (.ref ta), some (.int c8), some (.int c9), some (.int c10), some (.int c11), some (.int c12), some (.int c13), some (.int c14), some (.int c15), some (.int c16), some (.int c17), p18, p19, p20, p21, o22, o23] []) : hG Γ k9 A Q M (n) (z) 874 [some (.ref b), some (.ref x), some (.ref y), some (.int (nI tm)), some (.int xv), some (.long dg), none, some (.ref ta), some (.int c8), some (.int c9), some (.int c10), some (.int c11), some (.int c12), some (.int c13), some (.int c14), some (.int c15), some (.int c16), some (.int c17), o18, o19, o20, o21, o22, o23] [] := by
  obtain ⟨hL, hS, hI1, h0⟩ := id hLS
  obtain ⟨g, ga, gr⟩ := id hT
  refine g_iconst (q := 875) (0) C dL_law_874 (by decide) rfl ?_
  refine g_istore18 (q := 877) C dL_law_875 (by first | rfl | exact hNw_rf _) rfl ?_
  refine g_widen (n' := n + 0) (z' := z + 6 * 0) (by omega) (by omega) ?_
  refine h_loopU (P := fun k => ∀ (M4 : hM) (o19 o20 o21 : Option Value), hKp (fun _ => true) M M4 → hG Γ k9 A Q M4 (n + k) (z + 6 * k) 877 [some (.ref b), some (.ref x), some (.ref y), some (.int (nI tm)), some (.int xv), some (.long dg), none, some (.ref ta), some (.int c8), some (.int c9), some (.int c10), some (.int c11), some (.int c12), some (.int c13), some (.int c14), some (.int c15), some (.int c16), some (.int c17), some (.int (nI k)), o19, o20, o21, o22, o23] []) (N := 40) (fun k ha iha => ?_) 0 (Nat.zero_le _) M _ _ _ hKp.rf
  intro M4 o19 o20 o21 hk4
  refine g_iload (q := 879) C dL_law_877 rfl rfl ?_
  refine g_bipush (q := 881) (40) C dL_law_879 (by decide) rfl ?_
  refine g_icmp_ge (t := 1168) (q := 884) C dL_law_881 (by decide) rfl (fun c_881 => ?_) (fun c_881 => ?_)
  · skip
    have hNa := nI_ge_eq ha (by omega) c_881
    subst hNa
    refine g_widen (n' := n + 40) (z' := z + 240) (by omega) (by omega) ?_
    exact kk _ _ _ _ _ (hLS.all hk4)
  · skip
    have hlta := nI_nge_lt ha (by omega) c_881
    obtain ⟨ra, T, qa1, qa2, qa3⟩ := gr k hlta
    refine g_aload (q := 886) C dL_law_884 rfl (by first | exact hRef_r _ | exact hRef_o _ | exact hRef_n) rfl ?_
    refine g_iload (q := 888) C dL_law_886 rfl rfl ?_
    refine g_aaldR (q := 889) C k rfl hlta (by decide) dL_law_888 (hk4 _ _ _ ga rfl) (congrArg va_rf qa1) rfl ?_
    refine g_astore19 (q := 891) C dL_law_889 (by first | exact hRef_r _ | exact hRef_o _ | exact hRef_n) (by first | rfl | exact hNw_rf _) rfl ?_
    refine g_bipush (q := 893) (6) C dL_law_891 (by decide) rfl ?_
    refine g_newI (q := 895) C qw_476 (N := 6) rfl (by decide) (by show n + k + 1 ≤ 893913; omega) (by show z + 6 * k + 6 ≤ 6419885; omega) dL_law_893 rfl (fun nb e_nb => ?_)
    refine g_widen (n' := n + k + 1) (z' := z + 6 * k + 6) (Nat.le_refl _) (Nat.le_refl _) ?_
    refine g_astore20 (q := 897) C dL_law_895 (by first | exact hRef_r _ | exact hRef_o _ | exact hRef_n) (by first | rfl | exact hNw_rf _) rfl ?_
    refine g_iconst (q := 898) (0) C dL_law_897 (by decide) rfl ?_
    refine g_istore21 (q := 900) C dL_law_898 (by first | rfl | exact hNw_rf _) rfl ?_
    refine h_loopU (P := fun w => ∀ f : Nat → Int32, (∀ v, v < w → f v = tellI (sB (sGo S (nI d))) k (nI v)) → hG Γ k9 A Q (hU M4 nb (aI Γ 6 f)) (n + k + 1) (z + 6 * k + 6) 900 [some (.ref b), some (.ref x), some (.ref y), some (.int (nI tm)), some (.int xv), some (.long dg), none, some (.ref ta), some (.int c8), some (.int c9), some (.int c10), some (.int c11), some (.int c12), some (.int c13), some (.int c14), some (.int c15), some (.int c16), some (.int c17), some (.int (nI k)), some (.ref ra), some (.ref nb), some (.int (nI w)), o22, o23] []) (N := 6) (fun w hb ihb => ?_) 0 (Nat.zero_le _) (fun _ => 0) (fun v hv => absurd hv (Nat.not_lt_zero _))
    intro f hv5
    have kn : hKp (fun _ => true) M (hU M4 nb (aI Γ 6 f)) := hk4.new e_nb
    have hL5 := hL.kp kn rfl rfl rfl rfl rfl rfl ⟨rfl, rfl⟩ rfl
    obtain ⟨_, _, _, _, _, _, _, _, _, _, _, _, _, hLq5⟩ := id hL5
    refine g_iload (q := 902) C dL_law_900 rfl rfl ?_
    refine g_bipush (q := 904) (6) C dL_law_902 (by decide) rfl ?_
    refine g_icmp_ge (t := 934) (q := 907) C dL_law_904 (by decide) rfl (fun c_904 => ?_) (fun c_904 => ?_)
    · skip
      have hNb := nI_ge_eq hb (by omega) c_904
      subst hNb
      have hsE := rowE hI hD hd hlta qa3 hv5
      refine g_aload (q := 936) C dL_law_934 rfl (by first | exact hRef_r _ | exact hRef_o _ | exact hRef_n) rfl ?_
      refine g_iconst (q := 937) (0) C dL_law_936 (by decide) rfl ?_
      refine g_iald (q := 938) C 0 rfl (by decide) (by decide) dL_law_937 (hU_s _ _ _) rfl ?_
      refine g_aload (q := 940) C dL_law_938 rfl (by first | exact hRef_r _ | exact hRef_o _ | exact hRef_n) rfl ?_
      refine g_iconst (q := 941) (0) C dL_law_940 (by decide) rfl ?_
      refine g_iald (q := 942) C 0 rfl (by decide) (by decide) dL_law_941 (kn _ _ _ qa2 rfl) rfl ?_
      refine g_icmp_eq (t := 947) (q := 945) C dL_law_942 (by decide) rfl (fun c_942 => ?_) (fun c_942 => ?_)
      · skip
        refine g_aload (q := 949) C dL_law_947 rfl (by first | exact hRef_r _ | exact hRef_o _ | exact hRef_n) rfl ?_
        refine g_iconst (q := 950) (0) C dL_law_949 (by decide) rfl ?_
        refine g_iald (q := 951) C 0 rfl (by decide) (by decide) dL_law_950 (kn _ _ _ qa2 rfl) rfl ?_
        refine g_if_ge (t := 957) (q := 954) C dL_law_951 (by decide) rfl (fun c_951 => ?_) (fun c_951 => ?_)
        · skip
          have hsa := (row_n hI hlta qa3).2 (Int32.not_lt.mpr c_951)
          obtain ⟨j, ej⟩ := Option.isSome_iff_exists.mp hsa
          obtain ⟨-, g1, g2, g3, g4, g5, g6, g7, g8⟩ := rowG hI hD hd hlta ej qa3 hv5
          obtain ⟨T0, hjn, -⟩ := rowF hI hlta ej qa3
          refine g_iload (q := 959) C dL_law_957 rfl rfl ?_
          refine g_bipush (q := 961) (8) C dL_law_959 (by decide) rfl ?_
          refine g_irem (q := 962) C dL_law_961 (by decide) rfl ?_; rw [rm8 hlta]
          refine g_if_le (t := 978) (q := 965) C dL_law_962 (by decide) rfl (fun c_962 => ?_) (fun c_962 => ?_)
          · skip
            have hk0 := lz8 c_962
            refine g_iload (q := 980) C dL_law_978 rfl rfl ?_
            refine g_bipush (q := 982) (8) C dL_law_980 (by decide) rfl ?_
            refine g_irem (q := 983) C dL_law_982 (by decide) rfl ?_; rw [rm8 hlta]
            refine g_bipush (q := 985) (7) C dL_law_983 (by decide) rfl ?_
            refine g_icmp_ge (t := 1005) (q := 988) C dL_law_985 (by decide) rfl (fun c_985 => ?_) (fun c_985 => ?_)
            · skip
              have hk7 := l7 c_985
              refine g_iconst (q := 1006) (0) C dL_law_1005 (by decide) rfl ?_
              refine g_istore21 (q := 1008) C dL_law_1006 (by first | rfl | exact hNw_rf _) rfl ?_
              have hbe : nSp (sB S) k = false := nSp_no hI hlta (Or.inl hk0) (Or.inl hk7)
              refine cmp_1008 (k := k) C hl (by omega) (by omega) hL5 hI1 (hU_s _ _ _) (kn _ _ _ qa2 rfl) T0 hjn g1 g2 g3 g4 g5 g6 g7 g8 (by rw [hbe]; rfl) _ _ ?_
              refine g_iinc18 (q := 1165) (1) C dL_law_1162 (by decide) (by first | rfl | exact hNw_rf _) rfl ?_
              refine g_goto (t := 877) C dL_law_1165 (by decide) ?_
              rw [nI_1]
              refine g_widen (n' := n + (k + 1)) (z' := z + 6 * (k + 1)) (by show n + k + 1 ≤ n + (k + 1); omega) (by show z + 6 * k + 6 ≤ z + 6 * (k + 1); omega) ?_
              exact iha hlta _ _ _ _ kn
            · skip
              have hk7 : k % 8 < 7 := (nI_ltI (by omega) (by decide)).mp (Int32.not_le.mp c_985)
              obtain ⟨rr, Tr, qr1, qr2, qr3⟩ := gr (k + 1) (by omega)
              refine g_aload (q := 990) C dL_law_988 rfl (by first | exact hRef_r _ | exact hRef_o _ | exact hRef_n) rfl ?_
              refine g_iload (q := 992) C dL_law_990 rfl rfl ?_
              refine g_iconst (q := 993) (1) C dL_law_992 (by decide) rfl ?_
              refine g_iadd (q := 994) C dL_law_993 rfl ?_
              refine g_aaldR (q := 995) C (k + 1) (nI_1 k) (by omega) (by decide) dL_law_994 (kn _ _ _ ga rfl) (congrArg va_rf qr1) rfl ?_
              refine g_iconst (q := 996) (5) C dL_law_995 (by decide) rfl ?_
              refine g_iald (q := 997) C 5 rfl (by decide) (by decide) dL_law_996 (kn _ _ _ qr2 rfl) rfl ?_
              refine g_iconst (q := 998) (2) C dL_law_997 (by decide) rfl ?_
              refine g_icmp_le (t := 1005) (q := 1001) C dL_law_998 (by decide) rfl (fun c_998 => ?_) (fun c_998 => ?_)
              · skip
                refine g_iconst (q := 1006) (0) C dL_law_1005 (by decide) rfl ?_
                refine g_istore21 (q := 1008) C dL_law_1006 (by first | rfl | exact hNw_rf _) rfl ?_
                have hbe : nSp (sB S) k = false := nSp_no hI hlta (Or.inl hk0) (Or.inr (by rw [← qr3 5 (by decide)]; exact Int32.not_lt.mpr c_998))
                refine cmp_1008 (k := k) C hl (by omega) (by omega) hL5 hI1 (hU_s _ _ _) (kn _ _ _ qa2 rfl) T0 hjn g1 g2 g3 g4 g5 g6 g7 g8 (by rw [hbe]; rfl) _ _ ?_
                refine g_iinc18 (q := 1165) (1) C dL_law_1162 (by decide) (by first | rfl | exact hNw_rf _) rfl ?_
                refine g_goto (t := 877) C dL_law_1165 (by decide) ?_
                rw [nI_1]
                refine g_widen (n' := n + (k + 1)) (z' := z + 6 * (k + 1)) (by show n + k + 1 ≤ n + (k + 1); omega) (by show z + 6 * k + 6 ≤ z + 6 * (k + 1); omega) ?_
                exact iha hlta _ _ _ _ kn
              · skip
                refine g_iconst (q := 1002) (1) C dL_law_1001 (by decide) rfl ?_
                refine g_goto (t := 1006) C dL_law_1002 (by decide) ?_
                refine g_istore21 (q := 1008) C dL_law_1006 (by first | rfl | exact hNw_rf _) rfl ?_
                have hbe : nSp (sB S) k = true := nSp_r hI hlta hk7 (by rw [← qr3 5 (by decide)]; exact Int32.not_le.mp c_998)
                refine cmp_1008 (k := k) C hl (by omega) (by omega) hL5 hI1 (hU_s _ _ _) (kn _ _ _ qa2 rfl) T0 hjn g1 g2 g3 g4 g5 g6 g7 g8 (by rw [hbe]; rfl) _ _ ?_
                refine g_iinc18 (q := 1165) (1) C dL_law_1162 (by decide) (by first | rfl | exact hNw_rf _) rfl ?_
                refine g_goto (t := 877) C dL_law_1165 (by decide) ?_
                rw [nI_1]
                refine g_widen (n' := n + (k + 1)) (z' := z + 6 * (k + 1)) (by show n + k + 1 ≤ n + (k + 1); omega) (by show z + 6 * k + 6 ≤ z + 6 * (k + 1); omega) ?_
                exact iha hlta _ _ _ _ kn
          · skip
            have hk0 : k % 8 ≠ 0 := fun q => c_962 (by rw [q]; decide)
            obtain ⟨rl, Tl, ql1, ql2, ql3⟩ := gr (k - 1) (by omega)
            refine g_aload (q := 967) C dL_law_965 rfl (by first | exact hRef_r _ | exact hRef_o _ | exact hRef_n) rfl ?_
            refine g_iload (q := 969) C dL_law_967 rfl rfl ?_
            refine g_iconst (q := 970) (1) C dL_law_969 (by decide) rfl ?_
            refine g_isub (q := 971) C dL_law_970 rfl ?_
            refine g_aaldR (q := 972) C (k - 1) (pk_sub (a := k) (b := 1) (by omega)) (by omega) (by decide) dL_law_971 (kn _ _ _ ga rfl) (congrArg va_rf ql1) rfl ?_
            refine g_iconst (q := 973) (5) C dL_law_972 (by decide) rfl ?_
            refine g_iald (q := 974) C 5 rfl (by decide) (by decide) dL_law_973 (kn _ _ _ ql2 rfl) rfl ?_
            refine g_iconst (q := 975) (2) C dL_law_974 (by decide) rfl ?_
            refine g_icmp_gt (t := 1001) (q := 978) C dL_law_975 (by decide) rfl (fun c_975 => ?_) (fun c_975 => ?_)
            · skip
              refine g_iconst (q := 1002) (1) C dL_law_1001 (by decide) rfl ?_
              refine g_goto (t := 1006) C dL_law_1002 (by decide) ?_
              refine g_istore21 (q := 1008) C dL_law_1006 (by first | rfl | exact hNw_rf _) rfl ?_
              have hbe : nSp (sB S) k = true := nSp_l hI hlta hk0 (by rw [← ql3 5 (by decide)]; exact c_975)
              refine cmp_1008 (k := k) C hl (by omega) (by omega) hL5 hI1 (hU_s _ _ _) (kn _ _ _ qa2 rfl) T0 hjn g1 g2 g3 g4 g5 g6 g7 g8 (by rw [hbe]; rfl) _ _ ?_
              refine g_iinc18 (q := 1165) (1) C dL_law_1162 (by decide) (by first | rfl | exact hNw_rf _) rfl ?_
              refine g_goto (t := 877) C dL_law_1165 (by decide) ?_
              rw [nI_1]
              refine g_widen (n' := n + (k + 1)) (z' := z + 6 * (k + 1)) (by show n + k + 1 ≤ n + (k + 1); omega) (by show z + 6 * k + 6 ≤ z + 6 * (k + 1); omega) ?_
              exact iha hlta _ _ _ _ kn
            · skip
              refine g_iload (q := 980) C dL_law_978 rfl rfl ?_
              refine g_bipush (q := 982) (8) C dL_law_980 (by decide) rfl ?_
              refine g_irem (q := 983) C dL_law_982 (by decide) rfl ?_; rw [rm8 hlta]
              refine g_bipush (q := 985) (7) C dL_law_983 (by decide) rfl ?_
              refine g_icmp_ge (t := 1005) (q := 988) C dL_law_985 (by decide) rfl (fun c_985 => ?_) (fun c_985 => ?_)
              · skip
                have hk7 := l7 c_985
                refine g_iconst (q := 1006) (0) C dL_law_1005 (by decide) rfl ?_
                refine g_istore21 (q := 1008) C dL_law_1006 (by first | rfl | exact hNw_rf _) rfl ?_
                have hbe : nSp (sB S) k = false := nSp_no hI hlta (Or.inr (by rw [← ql3 5 (by decide)]; exact c_975)) (Or.inl hk7)
                refine cmp_1008 (k := k) C hl (by omega) (by omega) hL5 hI1 (hU_s _ _ _) (kn _ _ _ qa2 rfl) T0 hjn g1 g2 g3 g4 g5 g6 g7 g8 (by rw [hbe]; rfl) _ _ ?_
                refine g_iinc18 (q := 1165) (1) C dL_law_1162 (by decide) (by first | rfl | exact hNw_rf _) rfl ?_
                refine g_goto (t := 877) C dL_law_1165 (by decide) ?_
                rw [nI_1]
                refine g_widen (n' := n + (k + 1)) (z' := z + 6 * (k + 1)) (by show n + k + 1 ≤ n + (k + 1); omega) (by show z + 6 * k + 6 ≤ z + 6 * (k + 1); omega) ?_
                exact iha hlta _ _ _ _ kn
              · skip
                have hk7 : k % 8 < 7 := (nI_ltI (by omega) (by decide)).mp (Int32.not_le.mp c_985)
                obtain ⟨rr, Tr, qr1, qr2, qr3⟩ := gr (k + 1) (by omega)
                refine g_aload (q := 990) C dL_law_988 rfl (by first | exact hRef_r _ | exact hRef_o _ | exact hRef_n) rfl ?_
                refine g_iload (q := 992) C dL_law_990 rfl rfl ?_
                refine g_iconst (q := 993) (1) C dL_law_992 (by decide) rfl ?_
                refine g_iadd (q := 994) C dL_law_993 rfl ?_
                refine g_aaldR (q := 995) C (k + 1) (nI_1 k) (by omega) (by decide) dL_law_994 (kn _ _ _ ga rfl) (congrArg va_rf qr1) rfl ?_
                refine g_iconst (q := 996) (5) C dL_law_995 (by decide) rfl ?_
                refine g_iald (q := 997) C 5 rfl (by decide) (by decide) dL_law_996 (kn _ _ _ qr2 rfl) rfl ?_
                refine g_iconst (q := 998) (2) C dL_law_997 (by decide) rfl ?_
                refine g_icmp_le (t := 1005) (q := 1001) C dL_law_998 (by decide) rfl (fun c_998 => ?_) (fun c_998 => ?_)
                · skip
                  refine g_iconst (q := 1006) (0) C dL_law_1005 (by decide) rfl ?_
                  refine g_istore21 (q := 1008) C dL_law_1006 (by first | rfl | exact hNw_rf _) rfl ?_
                  have hbe : nSp (sB S) k = false := nSp_no hI hlta (Or.inr (by rw [← ql3 5 (by decide)]; exact c_975)) (Or.inr (by rw [← qr3 5 (by decide)]; exact Int32.not_lt.mpr c_998))
                  refine cmp_1008 (k := k) C hl (by omega) (by omega) hL5 hI1 (hU_s _ _ _) (kn _ _ _ qa2 rfl) T0 hjn g1 g2 g3 g4 g5 g6 g7 g8 (by rw [hbe]; rfl) _ _ ?_
                  refine g_iinc18 (q := 1165) (1) C dL_law_1162 (by decide) (by first | rfl | exact hNw_rf _) rfl ?_
                  refine g_goto (t := 877) C dL_law_1165 (by decide) ?_
                  rw [nI_1]
                  refine g_widen (n' := n + (k + 1)) (z' := z + 6 * (k + 1)) (by show n + k + 1 ≤ n + (k + 1); omega) (by show z + 6 * k + 6 ≤ z + 6 * (k + 1); omega) ?_
                  exact iha hlta _ _ _ _ kn
                · skip
                  refine g_iconst (q := 1002) (1) C dL_law_1001 (by decide) rfl ?_
                  refine g_goto (t := 1006) C dL_law_1002 (by decide) ?_
                  refine g_istore21 (q := 1008) C dL_law_1006 (by first | rfl | exact hNw_rf _) rfl ?_
                  have hbe : nSp (sB S) k = true := nSp_r hI hlta hk7 (by rw [← qr3 5 (by decide)]; exact Int32.not_le.mp c_998)
                  refine cmp_1008 (k := k) C hl (by omega) (by omega) hL5 hI1 (hU_s _ _ _) (kn _ _ _ qa2 rfl) T0 hjn g1 g2 g3 g4 g5 g6 g7 g8 (by rw [hbe]; rfl) _ _ ?_
                  refine g_iinc18 (q := 1165) (1) C dL_law_1162 (by decide) (by first | rfl | exact hNw_rf _) rfl ?_
                  refine g_goto (t := 877) C dL_law_1165 (by decide) ?_
                  rw [nI_1]
                  refine g_widen (n' := n + (k + 1)) (z' := z + 6 * (k + 1)) (by show n + k + 1 ≤ n + (k + 1); omega) (by show z + 6 * k + 6 ≤ z + 6 * (k + 1); omega) ?_
                  exact iha hlta _ _ _ _ kn
        · skip
          refine g_goto (t := 1162) C dL_law_954 (by decide) ?_
          refine g_iinc18 (q := 1165) (1) C dL_law_1162 (by decide) (by first | rfl | exact hNw_rf _) rfl ?_
          refine g_goto (t := 877) C dL_law_1165 (by decide) ?_
          rw [nI_1]
          refine g_widen (n' := n + (k + 1)) (z' := z + 6 * (k + 1)) (by show n + k + 1 ≤ n + (k + 1); omega) (by show z + 6 * k + 6 ≤ z + 6 * (k + 1); omega) ?_
          exact iha hlta _ _ _ _ kn
      · skip
        first | exact absurd hsE c_942
    · skip
      have hltb := nI_nge_lt hb (by omega) c_904
      refine g_aload (q := 909) C dL_law_907 rfl (by first | exact hRef_r _ | exact hRef_o _ | exact hRef_n) rfl ?_
      refine g_iload (q := 911) C dL_law_909 rfl rfl ?_
      refine g_aload_n (q := 912) C dL_law_911 rfl (by first | exact hRef_r _ | exact hRef_o _ | exact hRef_n) rfl ?_
      refine g_iload (q := 914) C dL_law_912 rfl rfl ?_
      refine g_bipush (q := 916) (8) C dL_law_914 (by decide) rfl ?_
      refine g_idiv (q := 917) C dL_law_916 (by decide) rfl ?_; rw [dv8 hlta]
      refine g_iload (q := 919) C dL_law_917 rfl rfl ?_
      refine g_bipush (q := 921) (8) C dL_law_919 (by decide) rfl ?_
      refine g_irem (q := 922) C dL_law_921 (by decide) rfl ?_; rw [rm8 hlta]
      refine g_iload (q := 924) C dL_law_922 rfl rfl ?_
      refine g_callV3P (q := 927) C hy_X4_told (c_X4_told_n Γ l (nI (k / 8)) (nI (k % 8)) (nI w) hL5 hI1.inv (by rw [sTold_i hlta (show w < 8 by omega)])) qw_371 (by exact hLq5.1) rfl ⟨Nat.le_of_ble_eq_true rfl, Nat.le_of_ble_eq_true rfl⟩ (Nat.le_of_ble_eq_true rfl) rfl dL_law_924 ⟨rfl, rfl⟩ ⟨by show _ ≤ 893913; omega, by show _ ≤ 6419885; omega⟩ rfl ?_
      refine g_iast (q := 928) C w rfl hltb (by decide) dL_law_927 (hU_s _ _ _) rfl ?_
      refine g_iinc21 (q := 931) (1) C dL_law_928 (by decide) (by first | rfl | exact hNw_rf _) rfl ?_
      refine g_goto (t := 900) C dL_law_931 (by decide) ?_
      rw [hU_2, nI_1]
      refine ihb hltb _ (fun v hv => ?_)
      by_cases q : v = w
      · rw [q, pk_us, sTold_i hlta (show w < 8 by omega)]
      · rw [pk_un q]; exact hv5 v (by omega)
