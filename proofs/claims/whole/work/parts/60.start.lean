/-! ===== the start ===== -/
theorem st_K {s : State} {b : Nat} (hts : ∀ w ∈ lw_tbl, w.before #[Value.ref b] s = true) (t : Nat) : ∃ Γ : hGam, Γ.2.2 = t ∧ hK Γ s := by
  have htsB : ∀ w ∈ hTbl, w.before #[Value.ref b] s = true := fun w hw => hts w (List.mem_filter.mp hw).1
  obtain ⟨c0, i0, K0⟩ := u_known (n := 3) htsB hcl_Jx4a65c.1 (htsB _ qw_57)
  obtain ⟨c1, i1, K1⟩ := u_known (n := 3) htsB hcl_X0.1 (htsB _ qw_422)
  obtain ⟨c2, i2, K2⟩ := u_known (n := 10) htsB hcl_X1.1 (htsB _ qw_90)
  obtain ⟨c3, i3, K3⟩ := u_known (n := 4) htsB hcl_X2.1 (htsB _ qw_571)
  obtain ⟨c4, i4, K4⟩ := u_known (n := 1) htsB hcl_X3.1 (htsB _ qw_83)
  obtain ⟨c5, i5, K5⟩ := u_known (n := 6) htsB hcl_X4.1 (htsB _ qw_49)
  obtain ⟨c6, i6, K6⟩ := u_known (n := 6) htsB hcl_X5.1 (htsB _ qw_678)
  obtain ⟨c7, i7, K7⟩ := u_known (n := 14) htsB hcl_X6.1 (htsB _ qw_672)
  obtain ⟨a0, k0, m0, f0, g0, h0⟩ := Cond.arrayClass_spec (htsB _ qw_708)
  obtain ⟨a1, k1, m1, f1, g1, h1⟩ := Cond.arrayClass_spec (htsB _ qw_945)
  obtain ⟨m2, a2, k2, q2, -, g2, h2, f2⟩ := Cond.arrayOver_spec (hts (Cond.arrayOver (.object "HerbLoft$Hook")) (by decide +kernel))
  obtain ⟨m3, a3, k3, q3, -, g3, h3, f3⟩ := Cond.arrayOver_spec (hts (Cond.arrayOver (.object "java/lang/Object")) (by decide +kernel))
  refine ⟨((fun k => match k with | 0 => c0 | 1 => c1 | 2 => c2 | 3 => c3 | 4 => c4 | 5 => c5 | 6 => c6 | _ => c7, fun k => match k with | 0 => i0 | 1 => i1 | 2 => i2 | 3 => i3 | 4 => i4 | 5 => i5 | 6 => i6 | _ => i7), fun k => match k with | 0 => a0 | 1 => a1 | 2 => a2 | _ => a3, t), rfl, fun c q hq => ?_, fun k q hk => ?_⟩
  · match c, hq with
    | 0, hq => cases hq; exact K0
    | 1, hq => cases hq; exact K1
    | 2, hq => cases hq; exact K2
    | 3, hq => cases hq; exact K3
    | 4, hq => cases hq; exact K4
    | 5, hq => cases hq; exact K5
    | 6, hq => cases hq; exact K6
    | 7, hq => cases hq; exact K7
    | n + 8, hq => cases hq
  · match k, hk with
    | 0, hk => cases hk; exact ⟨fun N z => ⟨(fun k h => by cases h), k0, g0, m0, h0⟩, f0⟩
    | 1, hk => cases hk; exact ⟨fun N z => ⟨(fun k h => by cases h), k1, g1, m1, h1⟩, f1⟩
    | 2, hk => cases hk; exact ⟨fun N z => ⟨(fun k h => by cases h), k2, g2, m2, h2⟩, ⟨k2, m2, g2, h2, q2, f2⟩⟩
    | 3, hk => cases hk; exact ⟨fun N z => ⟨(fun k h => by cases h), k3, g3, m3, h3⟩, ⟨k3, m3, g3, h3, q3, f3⟩⟩
    | n + 4, hk => cases hk
abbrev eaT : Term := .static "java/util/ArrayList" "DEFAULTCAPACITY_EMPTY_ELEMENTDATA" "[Ljava/lang/Object;"
theorem st_X {s : State} {b : Nat} (hts : ∀ w ∈ lw_tbl, w.before #[Value.ref b] s = true) (hgv : (Jvm.Cond.and given_1 narrow_1).before #[Value.ref b] s = true) : ∃ t : Nat, t < s.heap.size ∧ ∀ Γ : hGam, Γ.2.2 = t → hX Γ (fun q => s.heap.size ≤ q) s s.heap := by
  have hn := flat_of_before _ hgv
  have hA : ∀ a : Nat, a < s.heap.size → ¬ (fun q => s.heap.size ≤ q) a := fun a h => Nat.not_le.mpr h
  obtain ⟨t, ht, hT⟩ := va_Tof (tm := eaT) (ty := .object "java/lang/Object") (A := fun q => s.heap.size ≤ q) (N := 0) (f := fun _ => .null) (by decide) (hn (Cond.arrayOf eaT (.object "java/lang/Object")) (by decide +kernel)) (va_eqt (hn (Cond.eq (.length eaT) (.int 0)) (by decide +kernel))) (fun j hj => absurd hj (Nat.not_lt_zero _)) hA
  have htl : t < s.heap.size := by
    obtain ⟨cell, h1, -⟩ := hT
    exact (Array.getElem?_eq_some_iff.mp h1).1
  refine ⟨t, htl, fun Γ e => ?_⟩
  subst e
  have key1 : ∀ q ∈ hStrs, Cond.stringRef q.1 q.2.1 q.2.2 ∈ lw_tbl := by decide +kernel
  have key2 : ∀ q ∈ hStrs, (Cond.exactly (.string q.1 q.2.1) "java/lang/String").before #[Value.ref b] s = true := fun q hq => hn _ (by
    clear key1 htl hT ht hn hA
    revert q
    decide +kernel)
  refine ⟨va_Zof (hts (Cond.laysStatic "java/util/ArrayList" "DEFAULTCAPACITY_EMPTY_ELEMENTDATA" "[Ljava/lang/Object;") (by decide +kernel)) (hts (Cond.initialized "java/util/ArrayList") (by decide +kernel)) ht hA,
    vx_Zqof (hts (Cond.laysStatic Bundle.tN "UNASSIGNED_STACK" Bundle.steD) (by decide +kernel)) (hts (Cond.initialized Bundle.tN) (by decide +kernel)) (hn (Cond.isRef (.static Bundle.tN "UNASSIGNED_STACK" Bundle.steD)) (by decide +kernel)) hA,
    vx_Zqof (hts (Cond.laysStatic Bundle.tN "SUPPRESSED_SENTINEL" Bundle.listD) (by decide +kernel)) (hts (Cond.initialized Bundle.tN) (by decide +kernel)) (hn (Cond.isRef (.static Bundle.tN "SUPPRESSED_SENTINEL" Bundle.listD)) (by decide +kernel)) hA,
    fun q hq => ?_, fun w hw => ?_, va_AO.of (hts (Cond.arrayOver (.object "HerbLoft$Hook")) (by decide +kernel)), va_AO.of (hts (Cond.arrayOver (.object "java/lang/Object")) (by decide +kernel)), fun q hq => ?_, hT⟩
  · obtain ⟨a, c, cell, k, ha, -⟩ := Cond.exactly_spec (key2 q hq)
    exact ⟨a, vk_R.of (hts _ (key1 q hq)) ha⟩
  · have g2 := (List.mem_filter.mp hw).2
    have hot : w.onTables = true := by cases w <;> first | rfl | (simp [hNk] at g2)
    exact va_Nw.of hot (hts w (List.mem_filter.mp hw).1)
  · exact va_Nc.of (hn (Cond.not (.castable q.1 q.2)) (by
      clear key1 key2 htl hT ht hn hA
      revert q
      decide +kernel))
