/-! ===== doubles: rows, and no NaN here ===== -/
section hRows7
variable {Γ : hGam} {l : Launch} {k : hCtx} {own nm : String} {cc : ByteArray} {nL : Nat} {ret : Option FieldType} {rm : Room} {A : Nat → Prop} {Q : State → Prop} {M M0 : hM} {n z pc mc ms : Nat} {L : List (Option Value)} {st : List Value}
def hpD (pi : UInt64 → hM → Prop) : Option Value → hM → Prop := fun r M1 => ∃ x : UInt64, r = some (.double x) ∧ pi x M1
abbrev hpF (M : hM) (e : UInt64) : Option Value → hM → Prop := hpD (fun x M1 => x = e ∧ M1 = M)
theorem g_dconst0 {q : Nat} (C : hC Γ l k own nm cc nL ret rm A) (d : decode cc pc = .ok (.dconst 0, 1)) (hq : pc + 1 = q) (kk : hG Γ k A Q M n z q L (.double FP.dconst0 :: st)) : hG Γ k A Q M n z pc L st := by
  subst hq
  intro H locs ls h1 h2 h3 h4
  exact lv_dconst0 C.ex C.cd d (kk H locs ls h1 h2 h3 h4)
theorem g_ddiv {q : Nat} {x y : UInt64} (C : hC Γ l k own nm cc nL ret rm A) (hne : vf_n64 (FP.ddiv x y)) (d : decode cc pc = .ok (.ddiv, 1)) (hq : pc + 1 = q) (kk : hG Γ k A Q M n z q L (.double (FP.ddiv x y) :: st)) : hG Γ k A Q M n z pc L (.double y :: .double x :: st) := by
  subst hq
  intro H locs ls h1 h2 h3 h4
  exact lv_ddiv C.ex C.cd d hne (kk H locs ls h1 h2 h3 h4)
theorem g_dret {v : UInt64} {pi : UInt64 → hM → Prop} (C : hC Γ l k own nm cc nL (some .double) rm (hA M0 (kS k).heap.size)) (d : decode cc pc = .ok (.dreturn, 1)) (hp : pi v M) (hn : n ≤ mc) (hz : z ≤ ms) : hG Γ k (hA M0 (kS k).heap.size) (hEnd Γ k M0 (hpD pi) mc ms) M n z pc L [.double v] := by
  intro H locs ls h1 h2 h3 h4
  refine W.widen hn hz ?_
  exact W.dret C.ex C.cd C.re (fun t ht hW => ⟨⟨_, M, rfl, ⟨_, rfl, hp⟩, by rw [ht]; exact h1, h2⟩, h3.F ht⟩) h3.2.2 d C.lk
theorem g_callV0F {y : MethodName} {bytes : ByteArray} {maxL index : Nat} {rt : Option FieldType} {rm' : Room} {e : UInt64} {q b ci N : Nat} {T : u_T} {w : Bool} {fs : List Value} (C : hC Γ l k own nm cc nL ret rm A) (Y : hYV y bytes maxL rt 0) (hm : hMet Γ l y bytes maxL rt rm' (.ref b :: []) M (hpF M e)) (hl : Cond.methodLink own index y ∈ hTbl) (hb : M b = some (w, .inr (ci, fs))) (hc : vwCl[ci]? = some (y.cls, T, N)) (hR : rm'.frames + 1 ≤ rm.frames ∧ 8 + (maxL + 11) + rm'.locals ≤ rm.locals) (hsum : (st.map fun v => v.category).sum ≤ 8) (hsz : L.length = nL) (d : decode cc pc = .ok (.invokevirtual index, 3)) (h0 : rm'.cells = 0 ∧ rm'.slots = 0) (hcs : n ≤ rm.cells ∧ z ≤ rm.slots) (hq : pc + 3 = q) (kk : hG Γ k A Q M n z q L (.double e :: st)) : hG Γ k A Q M n z pc L (.ref b :: st) := by
  refine gx_callV (As := []) C Y hm hl hb hc hR hsum hsz (by rw [h0.1, h0.2]; exact hcs) d rfl hq (fun r M1 hp => by
    obtain ⟨x, rfl, rfl, rfl⟩ := hp
    exact (by rw [h0.1, h0.2]; exact kk))
end hRows7
/-- a small number over a small one -/
def okD (x : UInt64) : Bool := match FP.Core.decode FP.Core.b64 x.toNat with
  | .fin false c q => decide (c < 2 ^ 53) && decide (-1100 ≤ q) && decide (q ≤ 100)
  | _ => false
def nzD (x : UInt64) : Bool := match FP.Core.decode FP.Core.b64 x.toNat with
  | .fin _ c q => decide (c ≠ 0) && decide (-100 ≤ q)
  | _ => false
theorem i2d_okA : (List.range 4001).all (fun s => okD (FP.i2d (nI s))) = true := by decide +kernel
theorem i2d_nzA : (List.range 40).all (fun s => nzD (FP.i2d (nI (s + 1)))) = true := by decide +kernel
theorem i2d_ok {s : Nat} (h : s ≤ 4000) : okD (FP.i2d (nI s)) = true := List.all_eq_true.mp i2d_okA s (List.mem_range.mpr (by omega))
theorem i2d_nz {c : Nat} (h1 : 1 ≤ c) (h : c ≤ 40) : nzD (FP.i2d (nI c)) = true := by
  have := List.all_eq_true.mp i2d_nzA (c - 1) (List.mem_range.mpr (by omega))
  rw [show c - 1 + 1 = c by omega] at this
  exact this
def smD (x : UInt64) : Prop := x.toNat < 0x7ff0000000000000
theorem log2_lt53 {c : Nat} (h : c < 2 ^ 53) : c.log2 ≤ 53 := by
  by_cases h0 : c = 0
  · subst h0; decide
  · have := (Nat.log2_lt h0).mpr h; omega
theorem enc_sm {c : Nat} {q : Int} (hc : c < 2 ^ 53) (hq : q ≤ 900) : FP.Core.encode FP.Core.b64 (.fin false c q) < 0x7ff0000000000000 := by
  have t1 : FP.Core.b64.tails = 2 ^ 52 := rfl
  have t2 : FP.Core.b64.exps = 2 ^ 11 := rfl
  have t3 : FP.Core.b64.qmin = -1074 := rfl
  show (if c < FP.Core.b64.tails then FP.Core.assemble FP.Core.b64 false 0 c else FP.Core.assemble FP.Core.b64 false ((q - FP.Core.b64.qmin).toNat + 1) (c - FP.Core.b64.tails)) < _
  unfold FP.Core.assemble
  rw [t1, t2, t3]
  show (if c < 2 ^ 52 then (0 * 2 ^ 11 + 0) * 2 ^ 52 + c else (0 * 2 ^ 11 + ((q - -1074).toNat + 1)) * 2 ^ 52 + (c - 2 ^ 52)) < _
  split
  · omega
  · have hz : (q - -1074).toNat ≤ 1974 := by omega
    have := Nat.mul_le_mul_right (2 ^ 52) hz
    omega
theorem ddiv_sm {x y : UInt64} (hx : okD x = true) (hy : okD y = true) (hn : nzD y = true) : smD (FP.ddiv x y) := by
  unfold okD at hx hy
  unfold nzD at hn
  cases hdx : FP.Core.decode FP.Core.b64 x.toNat with
  | nan => rw [hdx] at hx; cases hx
  | inf s => rw [hdx] at hx; cases hx
  | fin s c q =>
    cases hdy : FP.Core.decode FP.Core.b64 y.toNat with
    | nan => rw [hdy] at hy; cases hy
    | inf s => rw [hdy] at hy; cases hy
    | fin t d r =>
      rw [hdx] at hx
      rw [hdy] at hy hn
      cases s with
      | true => cases hx
      | false =>
        cases t with
        | true => cases hy
        | false =>
          simp only [Bool.and_eq_true, decide_eq_true_eq] at hx hy hn
          obtain ⟨⟨x1, x2⟩, x3⟩ := hx
          obtain ⟨⟨y1, y2⟩, y3⟩ := hy
          obtain ⟨hn, hn2⟩ := hn
          have key : FP.Core.div FP.Core.b64 x.toNat y.toNat < 0x7ff0000000000000 := by
            unfold FP.Core.div
            rw [hdx, hdy]
            show FP.Core.encode _ (if d = 0 then (if c = 0 then FP.Core.Datum.nan else .inf (false != false)) else FP.Core.roundRatio _ (false != false) c d (q - r)) < _
            rw [if_neg hn]
            unfold FP.Core.roundRatio
            split
            · exact enc_sm (by decide) (by decide)
            · unfold FP.Core.roundAt FP.Core.settle
              have hq : FP.Core.quantum FP.Core.b64 c d (q - r) ≤ 800 := by
                unfold FP.Core.quantum FP.Core.leading
                have l1 := log2_lt53 x1
                have l2 := log2_lt53 y1
                have t3 : FP.Core.b64.qmin = -1074 := rfl
                have t4 : (FP.Core.b64.p : Int) = 53 := rfl
                rw [t3, t4]
                simp only
                split <;> omega
              split
              · unfold FP.Core.bound
                split
                · exact enc_sm (by assumption) (by omega)
                · rename_i h9
                  exact absurd (Int.le_trans hq (by decide)) h9
              · unfold FP.Core.bound
                split
                · exact enc_sm (by decide) (by omega)
                · rename_i h9
                  exact absurd (Int.le_trans (show FP.Core.quantum FP.Core.b64 c d (q - r) + 1 ≤ 801 by omega) (by decide)) h9
          show (UInt64.ofNat (FP.Core.div FP.Core.b64 x.toNat y.toNat)).toNat < _
          rw [UInt64.toNat_ofNat']
          exact Nat.lt_of_le_of_lt (Nat.mod_le _ _) key
theorem smD.n {x : UInt64} (h : smD x) : vf_n64 x := by
  unfold vf_n64
  rw [UInt64.le_iff_toNat_le, UInt64.toNat_and]
  exact Nat.le_trans Nat.and_le_left (Nat.le_of_lt h)
theorem smD.cmp {x : UInt64} (h : smD x) : FP.dcmp x x = some .eq := by
  show FP.Core.order (FP.Core.decode FP.Core.b64 x.toNat) (FP.Core.decode FP.Core.b64 x.toNat) = _
  have hE : ¬ FP.Core.fieldE FP.Core.b64 x.toNat = FP.Core.b64.exps - 1 := by
    show ¬ x.toNat / 2 ^ 52 % 2 ^ 11 = 2 ^ 11 - 1
    have h9 : x.toNat < 0x7ff0000000000000 := h
    omega
  unfold FP.Core.decode
  rw [if_neg hE]
  split
  · show some (compare _ _) = _
    simp
  · show some (compare _ _) = _
    simp
theorem half_A : (List.range 201).all (fun t => decide (nI t / 2 = nI (t / 2))) = true := by decide +kernel
theorem half_nI {t : Nat} (h : t ≤ 200) : nI t / 2 = nI (t / 2) := of_decide_eq_true (List.all_eq_true.mp half_A t (List.mem_range.mpr (by omega)))
theorem cnt_nI (B : Nat → hB) : ∀ n, ∃ c, c ≤ n ∧ hIt (fCnt B) 0 n = nI c
  | 0 => ⟨0, Nat.le_refl _, rfl⟩
  | n + 1 => by
    obtain ⟨c, hc, e⟩ := cnt_nI B n
    rw [hIt_s, e]
    show ∃ c', c' ≤ n + 1 ∧ (if (B n).1.isSome = true then nI c + 1 else nI c) = nI c'
    split
    · exact ⟨c + 1, by omega, nI_1 c⟩
    · exact ⟨c, by omega, rfl⟩
theorem sum_nI {S : hS} (hI : sInv S) : ∀ n, n ≤ 40 → ∃ c, c ≤ 100 * n ∧ hIt (fSum (sB S)) 0 n = nI c
  | 0, _ => ⟨0, Nat.le_refl _, rfl⟩
  | n + 1, hn => by
    obtain ⟨c, hc, e⟩ := sum_nI hI n (by omega)
    rw [hIt_s, e]
    show ∃ c', c' ≤ 100 * (n + 1) ∧ (if (sB S n).1.isSome = true then nI c + ((sB S n).2.1 + (sB S n).2.2.1) / 2 else nI c) = nI c'
    split
    · rename_i ht
      cases hb1 : (sB S n).1 with
      | none => rw [hb1] at ht; cases ht
      | some j =>
        obtain ⟨-, f1, f2, b1, b2⟩ := hI.2.2.1 n (by omega) j hb1
        obtain ⟨u, hu, eu⟩ := nI_of2 (M := 100) (n := 100) rfl (Int32.not_lt.mpr f1) f2
        obtain ⟨v, hv, ev⟩ := nI_of2 (M := 100) (n := 100) rfl (Int32.not_lt.mpr b1) b2
        rw [eu, ev, nI_add, half_nI (by omega), nI_add]
        exact ⟨c + (u + v) / 2, by omega, rfl⟩
    · exact ⟨c, by omega, rfl⟩
def sMean (S : hS) : UInt64 := if hIt (fCnt (sB S)) 0 40 = 0 then FP.dconst0 else FP.ddiv (FP.i2d (hIt (fSum (sB S)) 0 40)) (FP.i2d (hIt (fCnt (sB S)) 0 40))
theorem mean_sm {S : hS} (hI : sInv S) (h : ¬ hIt (fCnt (sB S)) 0 40 = 0) : smD (FP.ddiv (FP.i2d (hIt (fSum (sB S)) 0 40)) (FP.i2d (hIt (fCnt (sB S)) 0 40))) := by
  obtain ⟨s, hs, es⟩ := sum_nI hI 40 (Nat.le_refl _)
  obtain ⟨c, hc, ec⟩ := cnt_nI (sB S) 40
  rw [ec] at h
  have hc1 : 1 ≤ c := by
    rcases Nat.eq_zero_or_pos c with q | q
    · subst q; exact absurd rfl h
    · exact q
  rw [es, ec]
  exact ddiv_sm (i2d_ok hs) (i2d_ok (by omega)) (i2d_nz hc1 hc)
theorem sMean_sm {S : hS} (hI : sInv S) : smD (sMean S) := by
  unfold sMean
  split
  · show (0 : Nat) < _; decide
  · exact mean_sm hI (by assumption)
