/-! ===== the law's steps ===== -/
theorem mdP.kp {Γ : hGam} {M M1 : hM} {m : Nat} {th : Int32} {S : hS} (h : mdP Γ M m th S) (hk : hKp noLw M M1) : mdP Γ M1 m th S := by
  obtain ⟨s, ah, od, ad, G, d1, d2, mM, mA, mS, mAh, mOd, mNe, mH, mO, mV⟩ := h
  exact ⟨s, ah, od, ad, G, d1, d2, hk _ _ _ mM rfl, ⟨mA.1, fun c hc => hk _ _ _ (mA.2 c hc) rfl⟩, hk _ _ _ mS rfl, hk _ _ _ mAh rfl, hk _ _ _ mOd rfl, mNe, mH, mO, mV⟩
theorem ltP.km {Γ : hGam} {M M1 : hM} {x : Nat} {S : hS} (h : ltP Γ M x S) (hk : hKm M M1) : ltP Γ M1 x S :=
  h.kp (P := fun n => !(n == 6) && (!(n == 7) && !(n == 10))) (fun a w e ha hp => hk a w e ha (Or.inr (by
    simp only [Bool.and_eq_true, Bool.not_eq_true', beq_eq_false_iff_ne] at hp
    exact ⟨hp.1, hp.2.1, hp.2.2⟩))) rfl rfl rfl rfl rfl rfl rfl
theorem lgc (x : Int64) : lg_cmp x x = 0 := by simp [lg_cmp]
theorem nIz {c : Nat} (h : c ≤ 3) (h0 : nI c = 0) : c = 0 := by
  match c, h with
  | 0, _ => rfl
  | 1, _ => exact absurd h0 (by decide)
  | 2, _ => exact absurd h0 (by decide)
  | 3, _ => exact absurd h0 (by decide)
  | n + 4, h => omega
theorem nI_a {a : Nat} (b : Nat) : nI a + nI b = nI (a + b) := nI_add a b
theorem go5_A : (List.range 5).all (fun n => decide (nI n - 5 < 0)) = true := by decide +kernel
theorem sub5 {n : Nat} : nI (n + 5) - 5 = nI n := by
  rw [← nI_a 5, show nI 5 = 5 from rfl, Int32.add_sub_cancel]
theorem go5 {t N : Nat} (hN : N ≤ 2560) (ht : t ≤ N / 5) (h : ¬ nI N - 5 < nI (5 * t)) : t < N / 5 := by
  rcases Nat.lt_or_ge N 5 with q | q
  · have e := of_decide_eq_true (List.all_eq_true.mp go5_A N (List.mem_range.mpr q))
    have h0 : 0 ≤ nI (5 * t) := nI_pos' (n := 5 * t) (by omega)
    exact absurd (Int32.lt_of_lt_of_le e h0) h
  · obtain ⟨M, rfl⟩ : ∃ M, N = M + 5 := ⟨N - 5, by omega⟩
    rw [sub5] at h
    rcases Nat.lt_or_ge M (5 * t) with z | z
    · exact absurd (nI_lt z (by omega)) h
    · omega
theorem sHerb_le (S : hS) (e l : Int32) : (sHerb S e l).1 ≤ 3 := by
  unfold sHerb
  repeat (first | exact Nat.zero_le _ | exact (by decide : (1 : Nat) ≤ 3) | exact (by decide : (2 : Nat) ≤ 3) | exact (by decide : (3 : Nat) ≤ 3) | split)
theorem sHang_le (S : hS) (p q k w : Int32) : (sHang S p q k w).1 ≤ 3 := by
  unfold sHang
  repeat (first | exact Nat.zero_le _ | exact (by decide : (1 : Nat) ≤ 3) | exact (by decide : (2 : Nat) ≤ 3) | exact (by decide : (3 : Nat) ≤ 3) | split)
theorem sTake_le (S : hS) (p q : Int32) : (sTake S p q).1 ≤ 3 := by
  unfold sTake
  repeat (first | exact Nat.zero_le _ | exact (by decide : (1 : Nat) ≤ 3) | exact (by decide : (2 : Nat) ≤ 3) | exact (by decide : (3 : Nat) ≤ 3) | split)
theorem sMove_le (S : hS) (p q p2 q2 : Int32) : (sMove S p q p2 q2).1 ≤ 3 := by
  unfold sMove
  repeat (first | exact Nat.zero_le _ | exact (by decide : (1 : Nat) ≤ 3) | exact (by decide : (2 : Nat) ≤ 3) | exact (by decide : (3 : Nat) ≤ 3) | split)
theorem sTurn_le (S : hS) (p : Int32) : (sTurn S p).1 ≤ 3 := by
  unfold sTurn
  repeat (first | exact Nat.zero_le _ | exact (by decide : (1 : Nat) ≤ 3) | exact (by decide : (2 : Nat) ≤ 3) | exact (by decide : (3 : Nat) ≤ 3) | split)
theorem sSetW_le (S : hS) (p : Int32) : (sSetW S p).1 ≤ 3 := by
  unfold sSetW
  repeat (first | exact Nat.zero_le _ | exact (by decide : (1 : Nat) ≤ 3) | exact (by decide : (2 : Nat) ≤ 3) | exact (by decide : (3 : Nat) ≤ 3) | split)
theorem sOrd_le (S : hS) (k m w : Int32) : (sOrd S k m w).1 ≤ 3 := by
  unfold sOrd
  repeat (first | exact Nat.zero_le _ | exact (by decide : (1 : Nat) ≤ 3) | exact (by decide : (2 : Nat) ≤ 3) | exact (by decide : (3 : Nat) ≤ 3) | split)
theorem sPass_le (S : hS) (d dmp : Int32) : (sPass S d dmp).1 ≤ 3 := by
  unfold sPass
  repeat (first | exact Nat.zero_le _ | exact (by decide : (1 : Nat) ≤ 3) | exact (by decide : (2 : Nat) ≤ 3) | exact (by decide : (3 : Nat) ≤ 3) | split)
theorem sTold_le (S : hS) (p q w : Int32) : (sTold S p q w).1 ≤ 3 := by
  unfold sTold
  repeat (first | exact Nat.zero_le _ | exact (by decide : (1 : Nat) ≤ 3) | exact (by decide : (2 : Nat) ≤ 3) | exact (by decide : (3 : Nat) ≤ 3) | split)
theorem sAbout_le (S : hS) (k w : Int32) : (sAbout S k w).1 ≤ 3 := by
  unfold sAbout
  repeat (first | exact Nat.zero_le _ | exact (by decide : (1 : Nat) ≤ 3) | exact (by decide : (2 : Nat) ≤ 3) | exact (by decide : (3 : Nat) ≤ 3) | split)
theorem sAsked_le (S : hS) (o w : Int32) : (sAsked S o w).1 ≤ 3 := by
  unfold sAsked
  repeat (first | exact Nat.zero_le _ | exact (by decide : (1 : Nat) ≤ 3) | exact (by decide : (2 : Nat) ≤ 3) | exact (by decide : (3 : Nat) ≤ 3) | split)
theorem sCount_le (S : hS) (w : Int32) : (sCount S w).1 ≤ 3 := by
  unfold sCount
  repeat (first | exact Nat.zero_le _ | exact (by decide : (1 : Nat) ≤ 3) | exact (by decide : (2 : Nat) ≤ 3) | exact (by decide : (3 : Nat) ≤ 3) | split)
theorem sUntil_le (S : hS) (p q w dmp : Int32) : (sUntil S p q w dmp).1 ≤ 3 := by
  unfold sUntil
  repeat (first | exact Nat.zero_le _ | exact (by decide : (1 : Nat) ≤ 3) | exact (by decide : (2 : Nat) ≤ 3) | exact (by decide : (3 : Nat) ≤ 3) | split)
theorem sFore_le (S : hS) (d dmp w : Int32) : (sFore S d dmp w).1 ≤ 3 := by
  unfold sFore
  repeat (first | exact Nat.zero_le _ | exact (by decide : (1 : Nat) ≤ 3) | exact (by decide : (2 : Nat) ≤ 3) | exact (by decide : (3 : Nat) ≤ 3) | split)
theorem sAdv_le (S : hS) (d dmp : Int32) : (sAdv S d dmp).1 ≤ 3 := by
  unfold sAdv
  repeat (first | exact Nat.zero_le _ | exact (by decide : (1 : Nat) ≤ 3) | exact (by decide : (2 : Nat) ≤ 3) | exact (by decide : (3 : Nat) ≤ 3) | split)
section hRows10
variable {Γ : hGam} {l : Launch} {k : hCtx} {own nm : String} {cc : ByteArray} {nL : Nat} {ret : Option FieldType} {rm : Room} {A : Nat → Prop} {Q : State → Prop} {M : hM} {n z pc : Nat} {L : List (Option Value)} {st : List Value}
/-- the script: it lies in the heap of the start and is never written -/
theorem g_xald {b N q : Nat} {xs : Nat → Int32} {i : Int32} (C : hC Γ l k own nm cc nL ret rm A) (hX : va_X b N xs (kS k) (kS k).heap) (hbl : b < (kS k).heap.size) (hbA : ¬ A b) (j : Nat) (hi : i = nI j) (hj : j < N) (hN : N < 2 ^ 31) (d : decode cc pc = .ok (.iaload, 1)) (hq : pc + 1 = q) (kk : hG Γ k A Q M n z q L (.int (xs j) :: st)) : hG Γ k A Q M n z pc L (.int i :: .ref b :: st) := by
  subst hq
  intro H locs ls h1 h2 h3 h4
  have e : i.toNatClampNeg = j := by rw [hi, nI_clamp (by omega)]
  refine va_sld C.ex C.cd hX hbl hbA h3 (h_in hi hj hN) d ?_
  rw [e]
  exact kk H locs ls h1 h2 h3 h4
theorem g_xlen {b N q : Nat} {xs : Nat → Int32} (C : hC Γ l k own nm cc nL ret rm A) (hX : va_X b N xs (kS k) (kS k).heap) (hbl : b < (kS k).heap.size) (hbA : ¬ A b) (d : decode cc pc = .ok (.arraylength, 1)) (hq : pc + 1 = q) (kk : hG Γ k A Q M n z q L (.int (nI N) :: st)) : hG Γ k A Q M n z pc L (.ref b :: st) := by
  subst hq
  intro H locs ls h1 h2 h3 h4
  exact va_slen C.ex C.cd hX hbl hbA h3 d (kk H locs ls h1 h2 h3 h4)
end hRows10
