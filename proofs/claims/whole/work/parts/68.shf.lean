/-! PURE 48: the fields that are being built stay related. -/
theorem SH.f {V V' : VV} {M M' : Nat → Int32} {v : Bool} {nf ng ns ns' si w id b sz mn N nu : Nat} {le mo pg og : Int32} {U : Nat → Int32} (h : SH V M nf ng ns si) (hw : w < 3) (hid : id < 16) (hs1 : 1 ≤ sz) (hs2 : sz ≤ 31) (hm1 : 1 ≤ mn) (hb : b + mn * sz ≤ 256) (hnf : nf + mn ≤ 48) (hsi : si ≤ nf) (hnu : nu ≤ 32) (hng : ng ≤ 12) (hog : og = -6 ∨ ∃ g, g < ng ∧ og = nI g)
    (hF : ∀ i, i < nf * 17 → V' 52 i = V 52 i) (hC : ∀ q c, q < mn → c < 17 → V' 52 ((nf + q) * 17 + c) = FC v w id b sz le mo pg og N nu nf ns U q c)
    (hE : V' 54 = V 54) (hB0 : V 58 (w * 16 + id) = nI b) (hB : V' 58 = upd (V 58) (w * 16 + id) (nI (b + mn * sz)))
    (hU0 : ∀ k, k < ns → V' 56 k = V 56 k) (hU1 : v = false → ∀ k, k < nu → V' 56 (ns + k) = U k) (hns : ns' = ns + if v then 0 else nu)
    (hM : ∀ i, (i < 96 + 14 * nf ∨ 96 + 14 * (nf + mn) ≤ i) → (v = true ∨ (i ≠ 2388 + si ∧ i ≠ 2436 + si ∧ (i < 852 + 32 * si ∨ 852 + 32 * si + 32 ≤ i))) → M' i = M i)
    (hMC : ∀ q c, q < mn → c < 14 → M' (96 + 14 * (nf + q) + c) = MC v w id b sz le mo pg og N nu si U q c)
    (hMS : v = false → M' (2388 + si) = nI nu ∧ M' (2436 + si) = 0 ∧ ∀ k, k < nu → M' (852 + 32 * si + k) = U k) : SH V' M' (nf + mn) ng ns' (si + if v then 0 else 1) := by
  obtain ⟨a9, a10, a11, a12, a13, a14, a15⟩ := h
  have hns2 : ns ≤ ns' := by
    rw [hns]
    omega
  have hMf : ∀ f k, f < nf → k < 14 → M' (96 + 14 * f + k) = M (96 + 14 * f + k) := fun f k h1 h2 => hM _ (by omega) (Or.inr (by omega))
  have hFf : ∀ f k, f < nf → k < 17 → V' 52 (f * 17 + k) = V 52 (f * 17 + k) := fun f k h1 h2 => hF _ (by omega)
  have hFf0 : ∀ f, f < nf → V' 52 (f * 17) = V 52 (f * 17) := fun f h1 => hF _ (by omega)
  have hC0 : ∀ q, q < mn → V' 52 ((nf + q) * 17) = nI w := fun q hq => hC q 0 hq (by omega)
  have hmq : ∀ q, q < mn → q * sz + sz ≤ mn * sz := fun q hq => by
    have := Nat.mul_le_mul_right sz (show q + 1 ≤ mn from hq)
    rw [Nat.succ_mul] at this
    exact this
  have hitem : ∀ f, f < nf → V 52 (f * 17 + 6) = 1 → ∃ it, it < si ∧ M (96 + 14 * f + 9) = nI it := a15
  refine ⟨?_, ?_, ?_, ?_, ?_, ?_, ?_⟩
  · intro f hf
    by_cases hfo : f < nf
    · obtain ⟨b1, b2, b3, b4, b5, b6, b7, b8, b9, b10⟩ := a9 f hfo
      refine ⟨fun k hk => ?_, ?_, ?_, ?_, ?_, ?_, ?_, ?_, ?_, ?_⟩
      · rw [hFf f k hfo (by omega), hMf f k hfo (by omega)]; exact b1 k hk
      · rw [hFf f 11 hfo (by omega), hMf f 11 hfo (by omega)]; exact b2
      · rw [hFf f 14 hfo (by omega), hMf f 12 hfo (by omega)]; exact b3
      · rw [hFf f 15 hfo (by omega), hMf f 13 hfo (by omega)]; exact b4
      · rw [hFf0 f hfo]; exact b5
      · rw [hFf f 1 hfo (by omega)]; exact b6
      · rw [hFf f 2 hfo (by omega), hFf f 3 hfo (by omega)]; exact b7
      · rw [hFf f 11 hfo (by omega)]; exact b8
      · rw [hFf f 12 hfo (by omega)]; exact b9
      · rcases b10 with ⟨c1, c2, c3, c4, c5⟩ | ⟨c1, c2, it, m, u0, d1, d2, d3, d4, d5, d6, d7, d8, d9, d10⟩
        · refine Or.inl ⟨?_, ?_, ?_, ?_, ?_⟩
          · rw [hFf f 6 hfo (by omega)]; exact c1
          · rw [hFf f 9 hfo (by omega)]; exact c2
          · rw [hFf f 10 hfo (by omega), hMf f 10 hfo (by omega)]; exact c3
          · rw [hFf f 7 hfo (by omega)]; exact c4
          · rw [hMf f 9 hfo (by omega)]; exact c5
        · obtain ⟨it2, hit, e2⟩ := hitem f hfo c1
          have hie : it = it2 := nI_inj (by omega) (by omega) (d4.symm.trans e2)
          subst hie
          refine Or.inr ⟨?_, ?_, it, m, u0, d1, d2, by omega, ?_, ?_, ?_, ?_, fun k hk => ?_, ?_, fun p hp h => ?_⟩
          · rw [hFf f 6 hfo (by omega)]; exact c1
          · rw [hFf f 7 hfo (by omega)]; exact c2
          · rw [hMf f 9 hfo (by omega)]; exact d4
          · rw [hM _ (by omega) (Or.inr (by omega))]; exact d5
          · rw [hFf f 9 hfo (by omega)]; exact d6
          · rw [hFf f 13 hfo (by omega)]; exact d7
          · rw [hU0 _ (by omega), hM _ (by omega) (Or.inr (by omega))]; exact d8 k hk
          · rw [hFf f 10 hfo (by omega), d9]
            by_cases hm0 : m = 0
            · rw [if_pos hm0, if_pos hm0]
            · rw [if_neg hm0, if_neg hm0, hU0 _ (by omega)]
          · rw [hFf p 16 (by omega) (by omega), hM _ (by omega) (Or.inr (by omega))]
            rw [hFf f 12 hfo (by omega)] at h
            exact d10 p hp h
    · obtain ⟨q, rfl⟩ : ∃ q, f = nf + q := ⟨f - nf, by omega⟩
      have hq : q < mn := by omega
      have hq2 := hmq q hq
      refine ⟨fun k hk => ?_, ?_, ?_, ?_, ⟨w, hw, hC0 q hq⟩, ⟨id, hid, hC q 1 hq (by omega)⟩, ⟨b + q * sz, sz, hC q 2 hq (by omega), hC q 3 hq (by omega), hs1, hs2, by omega⟩, ?_, ⟨nf, by omega, hC q 12 hq (by omega)⟩, ?_⟩
      · rw [hC q k hq (by omega), hMC q k hq (by omega)]
        have hk9 : k = 0 ∨ k = 1 ∨ k = 2 ∨ k = 3 ∨ k = 4 ∨ k = 5 ∨ k = 6 ∨ k = 7 ∨ k = 8 := by omega
        rcases hk9 with rfl | rfl | rfl | rfl | rfl | rfl | rfl | rfl | rfl <;> rfl
      · rw [hC q 11 hq (by omega), hMC q 11 hq (by omega)]; rfl
      · rw [hC q 14 hq (by omega), hMC q 12 hq (by omega)]; rfl
      · rw [hC q 15 hq (by omega), hMC q 13 hq (by omega)]; rfl
      · rw [hC q 11 hq (by omega)]; exact hog
      · cases v with
        | true =>
          refine Or.inl ⟨hC q 6 hq (by omega), hC q 9 hq (by omega), ?_, ?_, hMC q 9 hq (by omega)⟩
          · rw [hC q 10 hq (by omega), hMC q 10 hq (by omega)]; rfl
          · rw [hC q 7 hq (by omega)]
            show nI (N / 4 % 2) = 0 ∨ nI (N / 4 % 2) = 1
            have : N / 4 % 2 = 0 ∨ N / 4 % 2 = 1 := by omega
            rcases this with e | e
            · rw [e]; exact Or.inl rfl
            · rw [e]; exact Or.inr rfl
        | false =>
          obtain ⟨s1, s2, s3⟩ := hMS rfl
          have hU1 := hU1 rfl
          refine Or.inr ⟨hC q 6 hq (by omega), hC q 7 hq (by omega), si, nu, ns, by omega, hnu, ?_, hMC q 9 hq (by omega), s1, hC q 9 hq (by omega), hC q 13 hq (by omega), fun k hk => ?_, ?_, fun p hp h => ?_⟩
          · rw [hns]
            exact Nat.le_refl _
          · rw [hU1 k hk, s3 k hk]
          · rw [hC q 10 hq (by omega)]
            show (if nu = 0 then 0 else U 0) = _
            by_cases h0 : nu = 0
            · rw [if_pos h0, if_pos h0]
            · rw [if_neg h0, if_neg h0]
              exact (hU1 0 (by omega)).symm
          · rw [hC q 12 hq (by omega)] at h
            have : nf = p := nI_inj (by omega) (by omega) h
            subst this
            rw [s2]
            exact hC 0 16 (by omega) (by omega)
  · intro f hf
    by_cases hfo : f < nf
    · refine ⟨fun e => ?_, fun g hg => ?_, fun g hg => by rw [hFf f 12 hfo (by omega), hFf g 12 (by omega) (by omega), hFf f 6 hfo (by omega), hFf g 6 (by omega) (by omega), hMf f 9 hfo (by omega), hMf g 9 (by omega) (by omega)]; exact (a10 f hfo).2.2 g hg⟩
      · rw [hFf f 12 hfo (by omega)]
        exact (a10 f hfo).1 e
      · rw [hFf f 12 hfo (by omega), hFf g 12 (by omega) (by omega), hFf f 6 hfo (by omega), hFf g 6 (by omega) (by omega), hFf0 f hfo, hFf0 g (by omega), hFf f 1 hfo (by omega), hFf g 1 (by omega) (by omega), hMf f 9 hfo (by omega), hMf g 9 (by omega) (by omega)]
        exact (a10 f hfo).2.1 g hg
    · obtain ⟨q, rfl⟩ : ∃ q, f = nf + q := ⟨f - nf, by omega⟩
      have hq : q < mn := by omega
      refine ⟨fun e => ?_, fun g hg => ?_, fun g hg e1 e2 e3 => ?_⟩
      rotate_right
      · rw [hC q 12 hq (by omega)]
        rw [hC q 6 hq (by omega)] at e1
        rw [hMC q 9 hq (by omega)] at e3
        cases v with
        | true =>
          have e1 : (0 : Int32) = 1 := e1
          exact absurd e1 (by decide)
        | false =>
          by_cases hgo : g < nf
          · exfalso
            rw [hFf g 6 hgo (by omega)] at e2
            rw [hMf g 9 hgo (by omega)] at e3
            obtain ⟨it, hit, e4⟩ := hitem g hgo e2
            have e3 : nI si = M (96 + 14 * g + 9) := e3
            rw [e4] at e3
            have := nI_inj (by omega) (by omega) e3
            omega
          · obtain ⟨q1, rfl⟩ : ∃ q1, g = nf + q1 := ⟨g - nf, by omega⟩
            rw [hC q1 12 (by omega) (by omega)]
            rfl
      · rw [hC q 12 hq (by omega)]
        show nI nf = nI 0
        rw [show nf = 0 by omega]
      · cases q with
        | zero =>
          refine Or.inr ⟨hC 0 12 hq (by omega), fun e => ?_⟩
          rw [hC 0 6 hq (by omega)] at e
          cases v with
          | true =>
            have e : (0 : Int32) = 1 := e
            exact absurd e (by decide)
          | false =>
            rw [hMC 0 9 hq (by omega), hMf g 9 (by omega) (by omega)]
            show nI si ≠ _
            obtain ⟨-, -, -, -, -, -, -, -, -, b10⟩ := a9 g (by omega)
            rcases b10 with ⟨-, -, -, -, c5⟩ | ⟨c1, -⟩
            · rw [c5]
              exact nIm6 (by omega)
            · obtain ⟨it, hit, e2⟩ := hitem g (by omega) c1
              rw [e2]
              exact fun e => by
                have := nI_inj (by omega) (by omega) e
                omega
        | succ q =>
          have hg : g = nf + q := by omega
          subst hg
          refine Or.inl ⟨?_, ?_, ?_, by rw [hC0 (q + 1) hq, hC0 q (by omega)], by rw [hC (q + 1) 1 hq (by omega), hC q 1 (by omega) (by omega)]; rfl⟩
          · rw [hC (q + 1) 12 hq (by omega), hC q 12 (by omega) (by omega)]; rfl
          · rw [hC (q + 1) 6 hq (by omega), hC q 6 (by omega) (by omega)]; rfl
          · rw [hMC (q + 1) 9 hq (by omega), hMC q 9 (by omega) (by omega)]; rfl
  · intro f g hfg hg e1 e2
    by_cases hgo : g < nf
    · rw [hFf0 f (by omega), hFf0 g hgo] at e1
      rw [hFf f 1 (by omega) (by omega), hFf g 1 hgo (by omega)] at e2
      rw [hFf f 2 (by omega) (by omega), hFf f 3 (by omega) (by omega), hFf g 2 hgo (by omega)]
      exact a11 f g hfg hgo e1 e2
    · obtain ⟨q, rfl⟩ : ∃ q, g = nf + q := ⟨g - nf, by omega⟩
      have hq : q < mn := by omega
      have hq2 := hmq q hq
      rw [hC0 q hq] at e1
      rw [hC q 1 hq (by omega)] at e2
      have e2 : _ = nI id := e2
      rw [hC q 2 hq (by omega)]
      show _ ≤ (nI (b + q * sz)).toInt
      rw [nI_toInt (by omega)]
      by_cases hfo : f < nf
      · rw [hFf0 f hfo] at e1
        rw [hFf f 1 hfo (by omega)] at e2
        rw [hFf f 2 hfo (by omega), hFf f 3 hfo (by omega)]
        have := a12 f hfo w id hw hid e1 e2
        rw [hB0, nI_toInt (by omega)] at this
        omega
      · obtain ⟨q1, rfl⟩ : ∃ q1, f = nf + q1 := ⟨f - nf, by omega⟩
        have h1 : q1 + 1 ≤ q := by omega
        have h2 := Nat.mul_le_mul_right sz h1
        rw [Nat.succ_mul] at h2
        rw [hC q1 2 (by omega) (by omega), hC q1 3 (by omega) (by omega)]
        show (nI (b + q1 * sz)).toInt + (nI sz).toInt ≤ _
        rw [nI_toInt (by omega), nI_toInt (by omega)]
        omega
  · intro f hf w2 i2 hw2 hi2 e1 e2
    rw [hB]
    by_cases hfo : f < nf
    · rw [hFf0 f hfo] at e1
      rw [hFf f 1 hfo (by omega)] at e2
      rw [hFf f 2 hfo (by omega), hFf f 3 hfo (by omega)]
      have := a12 f hfo w2 i2 hw2 hi2 e1 e2
      by_cases hwi : w2 * 16 + i2 = w * 16 + id
      · rw [hwi] at this ⊢
        rw [upd_s, nI_toInt (by omega)]
        rw [hB0, nI_toInt (by omega)] at this
        omega
      · rw [upd_n hwi]
        exact this
    · obtain ⟨q, rfl⟩ : ∃ q, f = nf + q := ⟨f - nf, by omega⟩
      have hq : q < mn := by omega
      have hq2 := hmq q hq
      rw [hC0 q hq] at e1
      rw [hC q 1 hq (by omega)] at e2
      have e2 : nI id = nI i2 := e2
      have e3 := nI_inj (by omega) (by omega) e1
      have e4 := nI_inj (by omega) (by omega) e2
      subst e3
      subst e4
      rw [upd_s, hC q 2 hq (by omega), hC q 3 hq (by omega)]
      show (nI (b + q * sz)).toInt + (nI sz).toInt ≤ _
      rw [nI_toInt (by omega), nI_toInt (by omega), nI_toInt (by omega)]
      omega
  · intro f hf
    by_cases hfo : f < nf
    · rw [hFf f 16 hfo (by omega)]
      exact a13 f hfo
    · obtain ⟨q, rfl⟩ : ∃ q, f = nf + q := ⟨f - nf, by omega⟩
      exact hC q 16 (by omega) (by omega)
  · intro g hg
    rw [hE]
    refine ⟨fun k hk => ?_, (a14 g hg).2⟩
    rw [(a14 g hg).1 k hk]
    exact (hM _ (by omega) (Or.inr (by omega))).symm
  · intro f hf e
    by_cases hfo : f < nf
    · rw [hFf f 6 hfo (by omega)] at e
      obtain ⟨it, hit, e2⟩ := hitem f hfo e
      exact ⟨it, by omega, by rw [hMf f 9 hfo (by omega)]; exact e2⟩
    · obtain ⟨q, rfl⟩ : ∃ q, f = nf + q := ⟨f - nf, by omega⟩
      rw [hC q 6 (by omega) (by omega)] at e
      cases v with
      | true =>
        have e : (0 : Int32) = 1 := e
        exact absurd e (by decide)
      | false => exact ⟨si, Nat.lt_succ_self _, hMC q 9 (by omega) (by omega)⟩
