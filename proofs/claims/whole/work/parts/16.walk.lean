section LawC
variable {Γ : Cx} {cc : ByteArray} {own : String} {nL h k n sz pc : Nat} {sa : Nat → Nat} {L : Lo} {st : List Value} {G : Hp}
theorem c_astoren (hO : Ok Γ cc own nL h sa) {i : Fin 4} {x : Nat} (hd : decode cc pc = .ok (.astore_n i, 1)) (hi : (i : Nat) < nL) (kk : Wc Γ k n sz (pc + 1) (st1 L i (.ref x)) st G) : Wc Γ k n sz pc L (.ref x :: st) G := by
  obtain ⟨p, l, ev, R, s, m, args, below, meth, c, Q, n', D, A, sa', sv, ck, sk⟩ := Γ
  obtain ⟨⟨hx, hb, hml, hown, hts⟩, rfl, hK, hX, hR, hC, rfl⟩ := hO
  intro H locs ls hP hz hS hL
  exact lv_astore_n hx hb hd rfl hL.has hi rfl (fun ls' hl => kk H locs ls' hP hz hS (Lcs.st1 hl))
end LawC
set_option maxHeartbeats 4000000 in
set_option maxRecDepth 100000 in
theorem whole_start_of (hgoal : LawGoal) {p : Program} {e : Env} {s : State} {m : MethodId} {below : List Frame} {meth : Method} {c : Code} (l : Launch) {b L : Nat} {xs : Nat → Int32} (hL : L ≤ 2048) (C0 : lw_At p s m meth c b L xs) : W p l e room_1 s m #[Value.ref b] below meth c s.heap [] 0 0 (lw_Z below #[Value.ref b] s) (entryFrame m ([Value.ref b] : List Value).toArray 4) := by
  obtain ⟨hx, hb, hr, hml, hown, hts, hX, hbl, hlocks, hgv⟩ := id C0
  have htg : ∀ w ∈ lw_g, w.before #[Value.ref b] s = true := fun w hw => hts w (List.mem_filter.mp hw).1
  have hA : ∀ q : Nat, s.heap.size ≤ q → (fun q : Nat => s.heap.size ≤ q) q := fun _ h => h
  have hnA : ∀ q : Nat, q < s.heap.size → ¬ (fun q : Nat => s.heap.size ≤ q) q := fun q h => Nat.not_le.mpr h
  obtain ⟨c0, iS0, hKn0⟩ := u_known (C := RX0) (T := TX0) (N := 6) (n := 6) htg FX0.2.1 (htg _ w_26)
  obtain ⟨c1, iS1, hKn1⟩ := u_known (C := RX1) (T := TX1) (N := 6) (n := 6) htg FX1.2.1 (htg _ w_131)
  obtain ⟨c2, iS2, hKn2⟩ := u_known (C := RX2) (T := TX2) (N := 14) (n := 14) htg FX2.2.1 (htg _ w_123)
  obtain ⟨c3, iS3, hKn3⟩ := u_known (C := RX3) (T := TX3) (N := 2) (n := 2) htg FX3.2.1 (htg _ w_32)
  obtain ⟨c4, iS4, hKn4⟩ := u_known (C := RX4) (T := TX4) (N := 4) (n := 4) htg FX4.2.1 (htg _ w_49)
  obtain ⟨c5, iS5, hKn5⟩ := u_known (C := RX5) (T := TX5) (N := 4) (n := 4) htg FX5.2.1 (htg _ w_55)
  obtain ⟨c6, iS6, hKn6⟩ := u_known (C := RX7) (T := TX7) (N := 6) (n := 6) htg FX7.2.1 (htg _ w_18)
  obtain ⟨c7, iS7, hKn7⟩ := u_known (C := RX8) (T := TX8) (N := 26) (n := 26) htg FX8.2.1 (htg _ w_766)
  obtain ⟨dC, dI, hKc⟩ : ∃ (dC : Nat → ClassId) (dI : Nat → Nat → Nat), ∀ (k : Nat) (q : vw_C), vwCl[k]? = some q → u_Kn s q.1 q.2.1 q.2.2 (dC k) (dI k) := by
    refine ⟨fun k => if k = 0 then c0 else if k = 1 then c1 else if k = 2 then c2 else if k = 3 then c3 else if k = 4 then c4 else if k = 5 then c5 else if k = 6 then c6 else c7, fun k => if k = 0 then iS0 else if k = 1 then iS1 else if k = 2 then iS2 else if k = 3 then iS3 else if k = 4 then iS4 else if k = 5 then iS5 else if k = 6 then iS6 else iS7, ?_⟩
    intro k q hq
    match k, hq with
    | 0, hq => cases hq; exact hKn0
    | 1, hq => cases hq; exact hKn1
    | 2, hq => cases hq; exact hKn2
    | 3, hq => cases hq; exact hKn3
    | 4, hq => cases hq; exact hKn4
    | 5, hq => cases hq; exact hKn5
    | 6, hq => cases hq; exact hKn6
    | 7, hq => cases hq; exact hKn7
    | k + 8, hq => simp [vwCl] at hq
  have hK : va_K (dC, dI) vwCl [] s := ⟨hKc, fun k q h => by simp at h⟩
  have hfl := flat_of_before _ hgv
  obtain ⟨sa, sv, hvS, hev⟩ := vk_Sof (N := 17) (tm := tmS) (len := txtL) (byt := txtB) (A := fun q : Nat => s.heap.size ≤ q) tx_hN (fun i hi => hfl _ (tx_ex i hi)) (fun i hi => hfl _ (tx_co i hi)) (fun i hi => hfl _ (tx_ar i hi)) (fun i hi => hfl _ (tx_le i hi)) (fun i hi j hj => hfl _ (tx_el i hi j hj)) (fun i j hi hj hij => (tx_ne i hi j hj hij).elim (fun q => Or.inl (hfl _ q)) (fun q => Or.inr (hfl _ q))) hnA
  have hXF : XF sa sv (fun q : Nat => s.heap.size ≤ q) s s.heap := by
    refine ⟨fun q hq => va_Nw.of rfl (hts _ (nest_in q hq)), hvS, fun i q hq => ?_, va_Zof (hts _ cs_lay) (htg _ wt_12) (va_eqt (hfl _ cs_in)) hnA, ?_⟩
    · have hi : i < 17 := (List.getElem?_eq_some_iff.mp hq).1
      have hg : txtW.getD i (0, "", []) = q := by rw [List.getD_eq_getElem?_getD, hq]; rfl
      have h1 := hts _ (tx_ref i hi)
      have h2 := hev i hi
      unfold tmS at h2
      rw [hg] at h1 h2
      exact vk_R.of h1 h2
    · have hq := hfl _ sio_in
      obtain ⟨v, hv, hvr⟩ : ∃ v : Value, (Term.static "jdk/internal/util/Preconditions" "SIOOBE_FORMATTER" "Ljava/util/function/BiFunction;").eval #[Value.ref b] s none [] s = some v ∧ (v = .null ∨ ∃ a, v = .ref a) := by
        cases hev : (Term.static "jdk/internal/util/Preconditions" "SIOOBE_FORMATTER" "Ljava/util/function/BiFunction;").eval #[Value.ref b] s none [] s with
        | none => simp [Cond.before, Cond.holds, Cond.value, hev] at hq
        | some v =>
          refine ⟨v, rfl, ?_⟩
          cases v <;> simp_all [Cond.before, Cond.holds, Cond.value, Value.isRef]
      exact ⟨v, hvr, va_Zof (hts _ sio_lay) (htg _ wt_14) hv hnA⟩
  have hO : Ok (p, l, e, room_1, s, m, #[Value.ref b], below, meth, c, lw_Z below #[Value.ref b] s, 4, (dC, dI), (fun q : Nat => s.heap.size ≤ q), sa, sv, 75, 20116) cL_law RL 4 9 sa := ⟨⟨hx, hb, hml, hown, htg⟩, rfl, hK, hXF, ⟨by decide, by decide⟩, ⟨by decide, by decide⟩, rfl⟩
  have hScr : Scr (p, l, e, room_1, s, m, #[Value.ref b], below, meth, c, lw_Z below #[Value.ref b] s, 4, (dC, dI), (fun q : Nat => s.heap.size ≤ q), sa, sv, 75, 20116) b L xs := ⟨hX, hbl, hnA b hbl⟩
  have hfr : ∀ z, s.heap.size ≤ z → frs (p, l, e, room_1, s, m, #[Value.ref b], below, meth, c, lw_Z below #[Value.ref b] s, 4, (dC, dI), (fun q : Nat => s.heap.size ≤ q), sa, sv, 75, 20116) z := fun z hz q hq => Nat.le_trans hz hq
  have hcap : cap (p, l, e, room_1, s, m, #[Value.ref b], below, meth, c, lw_Z below #[Value.ref b] s, 4, (dC, dI), (fun q : Nat => s.heap.size ≤ q), sa, sv, 75, 20116) = (600000, 7302249) := rfl
  have hend : ∀ (pc : Nat) (Lx : Lo) (Gx : Hp), decode cL_law pc = .ok (.ireturn, 1) → Wg (p, l, e, room_1, s, m, #[Value.ref b], below, meth, c, lw_Z below #[Value.ref b] s, 4, (dC, dI), (fun q : Nat => s.heap.size ≤ q), sa, sv, 75, 20116) pc Lx [.int 1] Gx := by
    intro pc Lx Gx hd H locs ls hP hS hLs
    exact va_forget (fun q hq => hS.2.2 q hq) (W.widen (by decide) (by decide) (lw_ret hx hb hr hlocks hd))
  obtain ⟨L', G', hg⟩ := hgoal sa hvS.2 b L xs s.heap.size hL
  have hl := lv_entry ([Value.ref b]) (n := 4) (Nat.le_of_ble_eq_true rfl)
  rw [lg_entry_eq]
  have hLs : Lcs ((lg_sl [Value.ref b] ++ List.replicate (4 - (lg_sl [Value.ref b]).length) Slot.unset).toArray) 4 [some (.ref b), none, none, none] := Lcs.of hl fun i v hi => by
    match i, hi with
    | 0, hi => cases hi; exact List.mem_cons_self
    | 1, hi => cases hi
    | 2, hi => cases hi
    | 3, hi => cases hi
    | i + 4, hi => simp at hi
  generalize hΓ : ((p, l, e, room_1, s, m, #[Value.ref b], below, meth, c, lw_Z below #[Value.ref b] s, 4, (dC, dI), (fun q : Nat => s.heap.size ≤ q), sa, sv, 75, 20116) : Cx) = Γ at hO hScr hfr hcap hend
  have key : Wc Γ 0 0 s.heap.size 0 [some (.ref b), none, none, none] [] (ov s.heap.size [] (fun _ => none)) := by
    generalize s.heap.size = a at hfr hg ⊢
    refine c_new hO (hfr a (Nat.le_refl a)) FX7 dL_law_0 w_17 w_18 w_1 [.null, .null, .null, .null, .null, .int 0] (by decide +kernel) (by rw [hcap]; exact ⟨by decide, by decide⟩) ?_
    rw [show hset (ov a [] fun _ => none) a (.inl (6, [.null, .null, .null, .null, .null, .int 0])) = ov a [.inl (6, [.null, .null, .null, .null, .null, .int 0])] (fun _ => none) from ov_new a (sz := 0) rfl]
    refine c_dup hO dL_law_3 ?_
    have hc := c_X7_init (fun _ => none) a
    refine c_call hO (hfr _ (by omega)) (vs := []) w_21 w_1 w_20 rfl ⟨by decide +kernel, by decide +kernel, by decide +kernel⟩ (by decide) (by decide) w_19 dL_law_4 hc rfl (Nat.le_of_ble_eq_true rfl) (by rw [hcap]; exact ⟨by decide, by decide⟩) ?_
    refine c_astoren hO dL_law_7 (by decide) ?_
    show Wc Γ 65 10055 (a + 65) 8 [some (.ref b), some (.ref a), none, none] [] (ov a (cells0 a) (fun _ => none))
    refine c_new hO (hfr _ (by omega)) FX8 dL_law_8 w_765 w_766 w_9 [.null, .null, .null, .int 0, .int 0, .int 0, .int 0, .int 0, .null, .null, .int 0, .null, .int 0, .int 0, .null, .int 0, .int 0, .int 0, .int 0, .null, .int 0, .int 0, .int 0, .int 0, .null, .int 0] (by decide +kernel) (by rw [hcap]; exact ⟨by decide, by decide⟩) ?_
    refine c_dup hO dL_law_11 ?_
    have hc := c_X8_init (ov a (cells0 a) (fun _ => none)) (a + 65)
    rw [show hset (ov a (cells0 a) fun _ => none) (a + 65) (.inl (7, [.null, .null, .null, .int 0, .int 0, .int 0, .int 0, .int 0, .null, .null, .int 0, .null, .int 0, .int 0, .null, .int 0, .int 0, .int 0, .int 0, .null, .int 0, .int 0, .int 0, .int 0, .null, .int 0])) = ov (a + 65) [.inl (7, [.null, .null, .null, .int 0, .int 0, .int 0, .int 0, .int 0, .null, .null, .int 0, .null, .int 0, .int 0, .null, .int 0, .int 0, .int 0, .int 0, .null, .int 0, .int 0, .int 0, .int 0, .null, .int 0])] (ov a (cells0 a) fun _ => none) by rw [ov_new a (sz := 65) rfl, ov_ov a (sz := 65) rfl]]
    refine c_call hO (hfr _ (by omega)) (vs := []) w_769 w_9 w_768 rfl ⟨by decide +kernel, by decide +kernel, by decide +kernel⟩ (by decide) (by decide) w_767 dL_law_12 hc rfl (Nat.le_of_ble_eq_true rfl) (by rw [hcap]; exact ⟨by decide, by decide⟩) ?_
    refine c_astoren hO dL_law_15 (by decide) ?_
    rw [ov_ov a (sz := 65) rfl]
    have hw : Wg Γ 16 [some (.ref b), some (.ref a), some (.ref (a + 65)), none] [] (ov a (cells0 a ++ cells1 a) fun _ => none) := by
      refine i_law hO hScr _ _ _ _ _ hg ?_
      intro pc Lx hd
      exact hend pc Lx G' hd
    subst hΓ
    exact fun H locs ls hP hz hS hL => hw H locs ls hP hS hL
  subst hΓ
  exact key s.heap [] _ (fun a e he => by simp [ov] at he) rfl va_S.rf hLs
