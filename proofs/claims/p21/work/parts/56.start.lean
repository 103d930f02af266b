/-! ===== the start ===== -/
theorem st_K {s : State} {b : Nat} (hts : ∀ w ∈ lw_tbl, w.before #[Value.ref b] s = true) (t : Nat) (sc : Nat × Nat × (Nat → Int32)) : ∃ Γ : hGam, Γ.2.2 = (t, sc) ∧ hK Γ s := by
  have htsB : ∀ w ∈ hTbl, w.before #[Value.ref b] s = true := fun w hw => hts w (List.mem_filter.mp hw).1
  obtain ⟨c0, i0, K0⟩ := u_known (n := 3) htsB hcl_Jx4a65c.1 (htsB _ qw_40)
  obtain ⟨c1, i1, K1⟩ := u_known (n := 3) htsB hcl_X0.1 (htsB _ qw_666)
  obtain ⟨c2, i2, K2⟩ := u_known (n := 10) htsB hcl_X1.1 (htsB _ qw_73)
  obtain ⟨c3, i3, K3⟩ := u_known (n := 4) htsB hcl_X2.1 (htsB _ qw_547)
  obtain ⟨c4, i4, K4⟩ := u_known (n := 1) htsB hcl_X3.1 (htsB _ qw_66)
  obtain ⟨c5, i5, K5⟩ := u_known (n := 6) htsB hcl_X4.1 (htsB _ qw_32)
  obtain ⟨c6, i6, K6⟩ := u_known (n := 6) htsB hcl_X5.1 (htsB _ qw_629)
  obtain ⟨a0, k0, m0, f0, g0, h0⟩ := Cond.arrayClass_spec (htsB _ qw_476)
  obtain ⟨a1, k1, m1, f1, g1, h1⟩ := Cond.arrayClass_spec (htsB _ qw_477)
  obtain ⟨m2, a2, k2, q2, -, g2, h2, f2⟩ := Cond.arrayOver_spec (hts _ qw_72)
  obtain ⟨m3, a3, k3, q3, -, g3, h3, f3⟩ := Cond.arrayOver_spec (hts _ qw_617)
  obtain ⟨m4, a4, k4, q4, -, g4, h4, f4⟩ := arrayOverA_spec (hts _ qw_466)
  obtain ⟨m5, a5, k5, q5, -, g5, h5, f5⟩ := arrayOverA_spec (hts _ qw_635)
  obtain ⟨m6, a6, k6, q6, -, g6, h6, f6⟩ := arrayOverA_spec (hts _ qw_468)
  refine ⟨((fun k => match k with | 0 => c0 | 1 => c1 | 2 => c2 | 3 => c3 | 4 => c4 | 5 => c5 | _ => c6, fun k => match k with | 0 => i0 | 1 => i1 | 2 => i2 | 3 => i3 | 4 => i4 | 5 => i5 | _ => i6), fun k => match k with | 0 => a0 | 1 => a1 | 2 => a2 | 3 => a3 | 4 => a4 | 5 => a5 | _ => a6, t, sc), rfl, fun c q hq => ?_, fun k q hk => ?_⟩
  · match c, hq with
    | 0, hq => cases hq; exact K0
    | 1, hq => cases hq; exact K1
    | 2, hq => cases hq; exact K2
    | 3, hq => cases hq; exact K3
    | 4, hq => cases hq; exact K4
    | 5, hq => cases hq; exact K5
    | 6, hq => cases hq; exact K6
    | n + 7, hq => cases hq
  · match k, hk with
    | 0, hk => cases hk; exact ⟨fun N z => ⟨(fun k h => by cases h), k0, g0, m0, h0⟩, f0⟩
    | 1, hk => cases hk; exact ⟨fun N z => ⟨(fun k h => by cases h), k1, g1, m1, h1⟩, f1⟩
    | 2, hk => cases hk; exact ⟨fun N z => ⟨(fun k h => by cases h), k2, g2, m2, h2⟩, ⟨k2, m2, g2, h2, q2, f2⟩⟩
    | 3, hk => cases hk; exact ⟨fun N z => ⟨(fun k h => by cases h), k3, g3, m3, h3⟩, ⟨k3, m3, g3, h3, q3, f3⟩⟩
    | 4, hk => cases hk; exact ⟨fun N z => ⟨(fun k h => by cases h), k4, g4, m4, h4⟩, f4⟩
    | 5, hk => cases hk; exact ⟨fun N z => ⟨(fun k h => by cases h), k5, g5, m5, h5⟩, f5⟩
    | 6, hk => cases hk; exact ⟨fun N z => ⟨(fun k h => by cases h), k6, g6, m6, h6⟩, f6⟩
    | n + 7, hk => cases hk
abbrev eaT : Term := .static "java/util/ArrayList" "DEFAULTCAPACITY_EMPTY_ELEMENTDATA" "[Ljava/lang/Object;"
theorem st_X {s : State} {b L : Nat} {xs : Nat → Int32} (hts : ∀ w ∈ lw_tbl, w.before #[Value.ref b] s = true) (hgv : (Jvm.Cond.and given_1 narrow_1).before #[Value.ref b] s = true) (hX0 : va_X b L xs s s.heap) (hbl : b < s.heap.size) : ∃ t : Nat, t < s.heap.size ∧ ∀ Γ : hGam, Γ.2.2 = (t, b, L, xs) → hX Γ (fun q => s.heap.size ≤ q) s s.heap := by
  have hn := flat_of_before _ hgv
  have hA : ∀ a : Nat, a < s.heap.size → ¬ (fun q => s.heap.size ≤ q) a := fun a h => Nat.not_le.mpr h
  obtain ⟨t, ht, hT⟩ := va_Tof (tm := eaT) (ty := .object "java/lang/Object") (A := fun q => s.heap.size ≤ q) (N := 0) (f := fun _ => .null) (by decide) (hn (Cond.arrayOf eaT (.object "java/lang/Object")) (by decide +kernel)) (va_eqt (hn (Cond.eq (.length eaT) (.int 0)) (by decide +kernel))) (fun j hj => absurd hj (Nat.not_lt_zero _)) hA
  have htl : t < s.heap.size := by
    obtain ⟨cell, h1, -⟩ := hT
    exact (Array.getElem?_eq_some_iff.mp h1).1
  refine ⟨t, htl, fun Γ e => ?_⟩
  have e1 : Γ.2.2.1 = t := congrArg (fun z => z.1) e
  have e2 : Γ.2.2.2 = (b, L, xs) := congrArg (fun z => z.2) e
  have key1 : ∀ q ∈ hStrs, Cond.stringRef q.1 q.2.1 q.2.2 ∈ lw_tbl := by decide +kernel
  have key2 : ∀ q ∈ hStrs, (Cond.exactly (.string q.1 q.2.1) "java/lang/String").before #[Value.ref b] s = true := fun q hq => hn _ (by
    clear key1 htl hT ht hn hA e1 e2 e
    revert q
    decide +kernel)
  obtain ⟨scr, x1, x2, x3, x4, x5⟩ := hX0
  refine ⟨by rw [e1]; exact va_Zof (hts (Cond.laysStatic "java/util/ArrayList" "DEFAULTCAPACITY_EMPTY_ELEMENTDATA" "[Ljava/lang/Object;") (by decide +kernel)) (hts (Cond.initialized "java/util/ArrayList") (by decide +kernel)) ht hA,
    vx_Zqof (hts (Cond.laysStatic Bundle.tN "UNASSIGNED_STACK" Bundle.steD) (by decide +kernel)) (hts (Cond.initialized Bundle.tN) (by decide +kernel)) (hn (Cond.isRef (.static Bundle.tN "UNASSIGNED_STACK" Bundle.steD)) (by decide +kernel)) hA,
    vx_Zqof (hts (Cond.laysStatic Bundle.tN "SUPPRESSED_SENTINEL" Bundle.listD) (by decide +kernel)) (hts (Cond.initialized Bundle.tN) (by decide +kernel)) (hn (Cond.isRef (.static Bundle.tN "SUPPRESSED_SENTINEL" Bundle.listD)) (by decide +kernel)) hA,
    fun q hq => ?_, fun w hw => ?_, va_AO.of (hts _ qw_72), va_AO.of (hts _ qw_617), ⟨over_moved (a := #[Value.ref b]) (a' := #[]) (Vm.Alike.refl _) (hts _ qw_466), over_moved (a := #[Value.ref b]) (a' := #[]) (Vm.Alike.refl _) (hts _ qw_468), over_moved (a := #[Value.ref b]) (a' := #[]) (Vm.Alike.refl _) (hts _ qw_635)⟩, by rw [e1]; exact hT, ?_⟩
  · obtain ⟨a, c, cell, k, ha, -⟩ := Cond.exactly_spec (key2 q hq)
    exact ⟨a, vk_R.of (hts _ (key1 q hq)) ha⟩
  · have g2 := (List.mem_filter.mp hw).2
    have hot : w.onTables = true := by cases w <;> first | rfl | (simp [hNk] at g2)
    exact va_Nw.of hot (hts w (List.mem_filter.mp hw).1)
  · unfold hScr
    rw [e2]
    exact ⟨scr, x1, x2, x3, Nat.le_of_eq x4.symm, by rw [x4], x5, Nat.not_le.mpr hbl⟩
