/-! THE LAW'S LOOP -/
section LOOP
variable {G : GG} {nm : String} {b L : Nat} {xs : Nat → Int32}
theorem law_body {j kc ks : Nat} {s : ST} {hp : List va_E} (hL : L ≤ 3072) (hj : 6 * j + 6 ≤ L) (hS : Mid G s s hp) (hI : Inv s) (hc : kc + 3 ≤ 838833) (hs : ks + 10 ≤ 6585748) (nx : NX G nm b L xs j kc ks) : VL G nm b L xs 27 (lvL G b j) [] hp kc ks := by
  refine v_aload_n dL_law_27 rfl rfl ?_
  refine v_iload_n dL_law_28 rfl rfl ?_
  refine v_sld dL_law_29 (by omega) (by omega) rfl ?_
  refine v_bipush (v := nI 31) dL_law_30 (by decide) rfl ?_
  refine v_iand dL_law_32 rfl ?_
  generalize xs (6 * j) &&& nI 31 = x
  by_cases ho : x.toInt < 0 ∨ 20 < x.toInt
  · exact v_tabOut (tgt := 916) dL_law_33 ho (by decide) (nx s hp kc ks hI hS (by omega) (by omega))
  · have h1 : ¬ x.toInt < 0 := fun q => ho (Or.inl q)
    have h2 : ¬ (20 : Int) < x.toInt := fun q => ho (Or.inr q)
    have h21 : x.toInt = 0 ∨ x.toInt = 1 ∨ x.toInt = 2 ∨ x.toInt = 3 ∨ x.toInt = 4 ∨ x.toInt = 5 ∨ x.toInt = 6 ∨ x.toInt = 7 ∨ x.toInt = 8 ∨ x.toInt = 9 ∨ x.toInt = 10 ∨ x.toInt = 11 ∨ x.toInt = 12 ∨ x.toInt = 13 ∨ x.toInt = 14 ∨ x.toInt = 15 ∨ x.toInt = 16 ∨ x.toInt = 17 ∨ x.toInt = 18 ∨ x.toInt = 19 ∨ x.toInt = 20 := by omega
    rcases h21 with h | h | h | h | h | h | h | h | h | h | h | h | h | h | h | h | h | h | h | h | h
    · exact v_tabIn (tgt := 132) (off := 99) dL_law_33 h1 h2 (by rw [h]; rfl) (by decide) (case_line hL hj hS hI hc hs nx)
    · exact v_tabIn (tgt := 195) (off := 162) dL_law_33 h1 h2 (by rw [h]; rfl) (by decide) (case_span hL hj hS hI hc hs nx)
    · exact v_tabIn (tgt := 258) (off := 225) dL_law_33 h1 h2 (by rw [h]; rfl) (by decide) (case_about hL hj hS hI hc hs nx)
    · exact v_tabIn (tgt := 301) (off := 268) dL_law_33 h1 h2 (by rw [h]; rfl) (by decide) (case_level hL hj hS hI hc hs nx)
    · exact v_tabIn (tgt := 344) (off := 311) dL_law_33 h1 h2 (by rw [h]; rfl) (by decide) (case_sense hL hj hS hI hc hs nx)
    · exact v_tabIn (tgt := 387) (off := 354) dL_law_33 h1 h2 (by rw [h]; rfl) (by decide) (case_sensible hL hj hS hI hc hs nx)
    · exact v_tabIn (tgt := 420) (off := 387) dL_law_33 h1 h2 (by rw [h]; rfl) (by decide) (case_work hL hj hS hI hc hs nx)
    · exact v_tabIn (tgt := 473) (off := 440) dL_law_33 h1 h2 (by rw [h]; rfl) (by decide) (case_fact hL hj hS hI hc hs nx)
    · exact v_tabIn (tgt := 516) (off := 483) dL_law_33 h1 h2 (by rw [h]; rfl) (by decide) (case_points hL hj hS hI hc hs nx)
    · exact v_tabIn (tgt := 549) (off := 516) dL_law_33 h1 h2 (by rw [h]; rfl) (by decide) (case_mark hL hj hS hI hc hs nx)
    · exact v_tabIn (tgt := 592) (off := 559) dL_law_33 h1 h2 (by rw [h]; rfl) (by decide) (case_given hL hj hS hI hc hs nx)
    · exact v_tabIn (tgt := 625) (off := 592) dL_law_33 h1 h2 (by rw [h]; rfl) (by decide) (case_like hL hj hS hI hc hs nx)
    · exact v_tabIn (tgt := 668) (off := 635) dL_law_33 h1 h2 (by rw [h]; rfl) (by decide) (case_parts hL hj hS hI hc hs nx)
    · exact v_tabIn (tgt := 701) (off := 668) dL_law_33 h1 h2 (by rw [h]; rfl) (by decide) (case_anchor hL hj hS hI hc hs nx)
    · exact v_tabIn (tgt := 734) (off := 701) dL_law_33 h1 h2 (by rw [h]; rfl) (by decide) (case_off hL hj hS hI hc hs nx)
    · exact v_tabIn (tgt := 767) (off := 734) dL_law_33 h1 h2 (by rw [h]; rfl) (by decide) (case_fair hL hj hS hI hc hs nx)
    · exact v_tabIn (tgt := 800) (off := 767) dL_law_33 h1 h2 (by rw [h]; rfl) (by decide) (case_drift hL hj hS hI hc hs nx)
    · exact v_tabIn (tgt := 833) (off := 800) dL_law_33 h1 h2 (by rw [h]; rfl) (by decide) (case_moves hL hj hS hI hc hs nx)
    · exact v_tabIn (tgt := 856) (off := 823) dL_law_33 h1 h2 (by rw [h]; rfl) (by decide) (case_copy hL hj hS hI hc hs nx)
    · exact v_tabIn (tgt := 879) (off := 846) dL_law_33 h1 h2 (by rw [h]; rfl) (by decide) (case_count hL hj hS hI hc hs nx)
    · exact v_tabIn (tgt := 902) (off := 869) dL_law_33 h1 h2 (by rw [h]; rfl) (by decide) (case_trace hL hj hS hI hc hs nx)
theorem law_cmp {L j : Nat} (hL : L ≤ 3072) (hj : j ≤ 512) (h : L < 6 * j + 6) : nI L - nI 6 < nI (6 * j) := by
  have e : (nI L - nI 6).toInt = (L : Int) - 6 := by
    rw [Int32.toInt_sub, nI_toInt (by omega), nI_toInt (by omega), bmod_ok (by omega) (by omega)]
    rfl
  rw [Int32.lt_iff_toInt_lt, e, nI_toInt (by omega)]
  omega
theorem law_loop (hL : L ≤ 3072) : ∀ (n j : Nat) (s : ST) (hp : List va_E) (kc ks : Nat), L ≤ 6 * (j + n) + 5 → j ≤ 512 → Inv s → Mid G s s hp → kc ≤ 100 + 3 * j → ks ≤ 1000 + 10 * j → VL G nm b L xs 18 (lvL G b j) [] hp kc ks := by
  intro n
  induction n with
  | zero =>
    intro j s hp kc ks h1 h2 hI hS hc hs
    refine v_iload_n dL_law_18 rfl rfl ?_
    refine v_aload_n dL_law_19 rfl rfl ?_
    refine v_slen dL_law_20 rfl ?_
    refine v_bipush (v := nI 6) dL_law_21 (by decide) rfl ?_
    refine v_isub dL_law_23 rfl ?_
    refine v_icmp_gt (tgt := 922) dL_law_24 (by decide) rfl (fun _ => ?_) (fun q => absurd (law_cmp (by omega) (by omega) (by omega)) q)
    refine v_iconst (v := 1) dL_law_922 (by decide) rfl ?_
    exact v_lawend dL_law_923 (by omega) (by omega)
  | succ n ih =>
    intro j s hp kc ks h1 h2 hI hS hc hs
    refine v_iload_n dL_law_18 rfl rfl ?_
    refine v_aload_n dL_law_19 rfl rfl ?_
    refine v_slen dL_law_20 rfl ?_
    refine v_bipush (v := nI 6) dL_law_21 (by decide) rfl ?_
    refine v_isub dL_law_23 rfl ?_
    refine v_icmp_gt (tgt := 922) dL_law_24 (by decide) rfl (fun _ => ?_) (fun q => ?_)
    · refine v_iconst (v := 1) dL_law_922 (by decide) rfl ?_
      exact v_lawend dL_law_923 (by omega) (by omega)
    · have hj : 6 * j + 6 ≤ L := Nat.le_of_not_lt (fun h => q (law_cmp (by omega) (by omega) (by omega)))
      refine law_body hL hj hS hI (by omega) (by omega) (fun s' hp' kc' ks' hI' hS' hc' hs' => ?_)
      refine v_iinc (v := nI (6 * (j + 1))) dL_law_916 rfl (nI_add (6 * j) 6) (Nat.le_of_ble_eq_true rfl) rfl ?_
      refine v_goto (tgt := 18) dL_law_919 (by decide) ?_
      exact ih (j + 1) s' hp' kc' ks' (by omega) (by omega) hI' hS' (by omega) (by omega)
theorem law_start (hL : L ≤ 3072) : VL G nm b L xs 0 [some (.ref b), none, none, none] [] [] 0 0 := by
  refine v_new (fs := [.null, .null, .int 0, .long 0, .null, .null, .null, .null]) dL_law_0 ci2 tk_L_7 tt_X2 ti_X2 (by decide) (Nat.le_of_ble_eq_true rfl) (Nat.le_of_ble_eq_true rfl) rfl ?_
  refine v_dup dL_law_3 rfl rfl ?_
  refine v_cin dL_law_4 cw_L_9 ⟨rfl, tn_X2_init⟩ rfl (c_sheetsInit G) (by rfl) (by rfl) (Nat.le_of_ble_eq_true rfl) (Nat.le_of_ble_eq_true rfl) (Nat.le_of_ble_eq_true rfl) (Nat.le_of_ble_eq_true rfl) (Nat.le_of_ble_eq_true rfl) rfl ?_
  refine v_astore_n dL_law_7 (Nat.le_of_ble_eq_true rfl) rfl ?_
  refine v_new (fs := [.null, .null, .null, .null, .null, .int 0, .null, .null, .null, .long 0, .int 0, .int 0, .int 0, .null, .null]) dL_law_8 ci3 tk_L_10 tt_X3 ti_X3 (by decide) (Nat.le_of_ble_eq_true rfl) (Nat.le_of_ble_eq_true rfl) rfl ?_
  refine v_dup dL_law_11 rfl rfl ?_
  refine v_ci dL_law_12 cw_L_12 ⟨rfl, tn_X3_init⟩ rfl (m_init G (H31 G) rfl) (by rfl) (by rfl) (Nat.le_of_ble_eq_true rfl) (Nat.le_of_ble_eq_true rfl) (Nat.le_of_ble_eq_true rfl) (Nat.le_of_ble_eq_true rfl) (Nat.le_of_ble_eq_true rfl) rfl (fun r h q => ?_)
  obtain ⟨e, ⟨y, hM⟩, hf, hl⟩ := q
  subst e
  refine v_astore_n dL_law_15 (Nat.le_of_ble_eq_true rfl) rfl ?_
  refine v_iconst (v := nI 0) dL_law_16 (by decide) rfl ?_
  refine v_istore_n dL_law_17 (Nat.le_of_ble_eq_true rfl) rfl ?_
  exact law_loop hL 512 0 s0 h _ _ (by omega) (by omega) i_s0 ⟨⟨_, px_s0 hf hl⟩, y, hM⟩ (Nat.le_of_ble_eq_true rfl) (Nat.le_of_ble_eq_true rfl)
end LOOP
