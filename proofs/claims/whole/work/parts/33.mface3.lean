-- LOOK: by first | assumption | exact set_get (by assumption) | exact (set_ne (by decide)).trans (by assumption) | exact set_get (set_get (by assumption))
/-! THE REFERENCE'S FACE: parts, off, fair, moves, counts -/
theorem bmod_ok {z : Int} (h1 : -(2 ^ 31) ≤ z) (h2 : z < 2 ^ 31) : z.bmod (2 ^ 32) = z := by
  rw [Int.bmod_def]
  split <;> omega
theorem offS_bd {s : ST} (hI : Inv s) {m : Nat} (hm : m < 3) : ∀ k, k ≤ s.n → -(3 * (k : Int)) ≤ (offS s m k).toInt ∧ (offS s m k).toInt ≤ 3 * (k : Int)
  | 0, _ => by simp [offS]; decide
  | k + 1, hk => by
    have ih := offS_bd hI hm k (by omega)
    have hn := hI.2.2.2
    by_cases h : offP s m k
    · rw [offS_t h]
      obtain ⟨p, hp, ep⟩ := inR_of (by decide) ((hI.2.1 k (by omega) m hm).resolve_left h.2)
      obtain ⟨q, hq, eq⟩ := inR_of (by decide) ((hI.2.2.1 k (by omega)).resolve_left h.1)
      rw [ep, eq, Int32.toInt_add, pk_sub_toInt (by omega) (by omega), bmod_ok (by omega) (by omega)]
      omega
    · rw [offS_f h]
      omega
theorem prt_pos {s : ST} (hI : Inv s) {a b : Nat} (ha : a < 3) (hb : b < 3) : ∀ k, k ≤ s.n → nI 0 ≤ (prtS s a b k).1
  | 0, _ => by simp [prtS]
  | k + 1, hk => by
    by_cases h : bothP s a b k ∧ ¬ absI (s.mr k a - s.mr k b) ≤ (prtS s a b k).1
    · rw [prtS_t h]
      obtain ⟨p, hp, ep⟩ := inR_of (by decide) ((hI.2.1 k (by omega) a ha).resolve_left h.1.1)
      obtain ⟨q, hq, eq⟩ := inR_of (by decide) ((hI.2.1 k (by omega) b hb).resolve_left h.1.2)
      rw [ep, eq, absI_nI (by rw [pk_sub_toInt (by omega) (by omega)]; omega)]
      exact nI_pos' (by rw [pk_sub_toInt (by omega) (by omega)]; omega)
    · rw [prtS_f h]
      exact prt_pos hI ha hb k (by omega)
def fmI (a : Int32) (A : Nat) (S : Int32) : Int32 := if nI (5 * A) ≤ nI 2 * (a * nI A - S) then nI 3 else if nI (3 * A) ≤ nI 2 * (a * nI A - S) then nI 2 else if nI (1 * A) ≤ nI 2 * (a * nI A - S) then nI 1 else nI 0
theorem fa_dec : ∀ a, a < 4 → ∀ A, A < 13 → ∀ t, t < 73 → 0 < A → faI (nI a) A (nI t - nI 36) = fmI (nI a) A (nI t - nI 36) := by decide +kernel
theorem fa_ok {s : ST} (hI : Inv s) {m w : Nat} (hm : m < 3) (hw : w < s.n) (h1 : mkdP s m w) (h2 : 0 < cnt (offP s m) s.n) : frI s m w = fmI (s.mr w m) (cnt (offP s m) s.n) (offS s m s.n) := by
  have hn := hI.2.2.2
  have hb := offS_bd hI hm s.n (Nat.le_refl _)
  have hA : cnt (offP s m) s.n ≤ 12 := Nat.le_trans (cnt_le _ _) hn
  obtain ⟨p, hp, ep⟩ := inR_of (by decide) ((hI.2.1 w hw m hm).resolve_left h1)
  have eS : offS s m s.n = nI ((offS s m s.n).toInt + 36).toNat - nI 36 := by
    apply Int32.toInt_inj.mp
    rw [pk_sub_toInt (by omega) (by omega)]
    omega
  rw [frI_t ⟨h1, h2⟩, ep, eS]
  exact fa_dec p hp _ (by omega) _ (by omega) h2
theorem cnt_add (p : Nat → Prop) (a : Nat) : ∀ b, cnt p (a + b) = cnt p a + cnt (fun i => p (a + i)) b
  | 0 => rfl
  | b + 1 => by
    have ih := cnt_add p a b
    by_cases h : p (a + b)
    · rw [show a + (b + 1) = (a + b) + 1 from rfl, cnt_t h, cnt_t (p := fun i => p (a + i)) h, ih]; rfl
    · rw [show a + (b + 1) = (a + b) + 1 from rfl, cnt_f h, cnt_f (p := fun i => p (a + i)) h, ih]
theorem cnt_none {p : Nat → Prop} : ∀ n, (∀ i, i < n → ¬ p i) → cnt p n = 0
  | 0, _ => rfl
  | n + 1, h => by rw [cnt_f (h n (by omega))]; exact cnt_none n (fun i hi => h i (by omega))
theorem mks_sum (s : ST) : ∀ n, mksN s n = cnt (mkdP s 0) n + cnt (mkdP s 1) n + cnt (mkdP s 2) n
  | 0 => rfl
  | n + 1 => by
    have ih := mks_sum s n
    have h3 : cnt (fun m => mkdP s m n) 3 + (cnt (mkdP s 0) n + cnt (mkdP s 1) n + cnt (mkdP s 2) n) = cnt (mkdP s 0) (n + 1) + cnt (mkdP s 1) (n + 1) + cnt (mkdP s 2) (n + 1) := by
      have e3 : cnt (fun m => mkdP s m n) 3 = cnt (fun m => mkdP s m n) 2 + (cnt (mkdP s 2) (n + 1) - cnt (mkdP s 2) n) := by
        by_cases h : mkdP s 2 n
        · rw [cnt_t (p := mkdP s 2) h, cnt_t (p := fun m => mkdP s m n) (n := 2) h]; omega
        · rw [cnt_f (p := mkdP s 2) h, cnt_f (p := fun m => mkdP s m n) (n := 2) h]; omega
      have e2 : cnt (fun m => mkdP s m n) 2 = cnt (fun m => mkdP s m n) 1 + (cnt (mkdP s 1) (n + 1) - cnt (mkdP s 1) n) := by
        by_cases h : mkdP s 1 n
        · rw [cnt_t (p := mkdP s 1) h, cnt_t (p := fun m => mkdP s m n) (n := 1) h]; omega
        · rw [cnt_f (p := mkdP s 1) h, cnt_f (p := fun m => mkdP s m n) (n := 1) h]; omega
      have e1 : cnt (fun m => mkdP s m n) 1 = (cnt (mkdP s 0) (n + 1) - cnt (mkdP s 0) n) := by
        by_cases h : mkdP s 0 n
        · rw [cnt_t (p := mkdP s 0) h, cnt_t (p := fun m => mkdP s m n) (n := 0) h]; show 0 + 1 = _; omega
        · rw [cnt_f (p := mkdP s 0) h, cnt_f (p := fun m => mkdP s m n) (n := 0) h]; show 0 = _; omega
      have up : ∀ m, cnt (mkdP s m) n ≤ cnt (mkdP s m) (n + 1) := fun m => by
        by_cases h : mkdP s m n
        · rw [cnt_t h]; omega
        · rw [cnt_f h]; omega
      have u0 := up 0
      have u1 := up 1
      have u2 := up 2
      omega
    simp only [mksN]
    omega
theorem cnt36 {s : ST} {f : Nat → Int32} (hn : s.n ≤ 12) (h : ∀ m, m < 3 → ∀ w, w < 12 → f (12 * m + w) = if w < s.n then s.mr w m else -900) : cnt (fun i => ¬ f i = -900) 36 = mksN s s.n := by
  have blk : ∀ m, m < 3 → cnt (fun w => ¬ f (12 * m + w) = -900) 12 = cnt (mkdP s m) s.n := by
    intro m hm
    have e := cnt_add (fun w => ¬ f (12 * m + w) = -900) s.n (12 - s.n)
    rw [show s.n + (12 - s.n) = 12 by omega] at e
    rw [e, cnt_none (12 - s.n) (fun i hi q => q (by show f (12 * m + (s.n + i)) = _; rw [h m hm (s.n + i) (by omega), if_neg (by omega)])), Nat.add_zero]
    exact cnt_congr s.n (fun i hi => by rw [h m hm i (by omega), if_pos hi])
  have e1 := cnt_add (fun i => ¬ f i = -900) 24 12
  have e2 := cnt_add (fun i => ¬ f i = -900) 12 12
  have b0 := blk 0 (by decide)
  have b1 := blk 1 (by decide)
  have b2 := blk 2 (by decide)
  rw [mks_sum, ← b0, ← b1, ← b2]
  refine e1.trans ?_
  rw [e2]
  rw [show cnt (fun w => ¬ f (12 * 0 + w) = -900) 12 = cnt (fun i => ¬ f i = -900) 12 from cnt_congr 12 (fun i _ => by rw [show 12 * 0 + i = i by omega])]
section MFACE3
variable (G : GG) (hp : List va_E) {s : ST} {y : YT}
theorem mm_parts_y (hM : PM G s y hp) (hI : Inv s) {a b : Nat} (ha : a < 3) (hb : b < 3) (hab : a ≠ b) : Ct G mX3_parts 2 0 0 [.ref (G.2.2.2 + 31), .int (nI a), .int (nI b)] hp (Qf (some (.int (prtS s a b s.n).2)) hp) := by
  obtain ⟨m0, m1, m2, m3, m4, m5, m6, m7, m8, m9, m10⟩ := hM.pr
  obtain ⟨hK, hF, hWf, hMk, hTr, hn⟩ := hM.pp
  have key : ∀ k, k ≤ s.n → ∀ (l6 : Option Value), Vm G mX3_parts 2 0 0 (Qf (some (.int (prtS s a b s.n).2)) hp) 32 [some (.ref (G.2.2.2 + 31)), some (.int (nI a)), some (.int (nI b)), some (.int (prtS s a b k).2), some (.int (prtS s a b k).1), some (.int (nI k)), l6] [] hp 0 0 := by
    refine loop_up ?_ (fun k hk ih => ?_)
    · intro l6
      refine v_iload dX3_parts_32 rfl rfl ?_
      refine v_aload_n dX3_parts_34 rfl rfl ?_
      refine v_getf dX3_parts_35 fl_X3_77 (by first | assumption | exact set_get (by assumption) | exact (set_ne (by decide)).trans (by assumption) | exact set_get (set_get (by assumption))) (by rfl) rfl ?_
      refine v_icmp_geN (tgt := 122) dX3_parts_38 (by decide) rfl (by omega) (by omega) (fun c38 => ?_) (fun c38 => ?_)
      · refine v_iload_n dX3_parts_122 rfl rfl ?_
        exact v_iret dX3_parts_123 rfl ⟨Nat.le_of_ble_eq_true rfl, Nat.le_of_ble_eq_true rfl⟩ (⟨rfl, rfl⟩)
      · exact absurd c38 (by omega)
    · intro l6
      have h0 := prt_pos hI ha hb k (by omega)
      refine v_iload dX3_parts_32 rfl rfl ?_
      refine v_aload_n dX3_parts_34 rfl rfl ?_
      refine v_getf dX3_parts_35 fl_X3_77 (by first | assumption | exact set_get (by assumption) | exact (set_ne (by decide)).trans (by assumption) | exact set_get (set_get (by assumption))) (by rfl) rfl ?_
      refine v_icmp_geN (tgt := 122) dX3_parts_38 (by decide) rfl (by omega) (by omega) (fun c38 => ?_) (fun c38 => ?_)
      · exact absurd c38 (by omega)
      · refine v_aload_n dX3_parts_41 rfl rfl ?_
        refine v_iload_n dX3_parts_42 rfl rfl ?_
        refine v_iload_n dX3_parts_43 rfl rfl ?_
        refine v_iload dX3_parts_44 rfl rfl ?_
        by_cases q46 : bothP s a b k
        · refine v_cvf dX3_parts_46 cw_X3_97 ⟨tn_X3_both, tl_X3_both⟩ rfl (by first | assumption | exact set_get (by assumption) | exact (set_ne (by decide)).trans (by assumption) | exact set_get (set_get (by assumption))) ((m_both G hp hM ha hb hk).yes ‹_›) (by rfl) (by rfl) (Nat.le_of_ble_eq_true rfl) (Nat.le_of_ble_eq_true rfl) (Nat.le_of_ble_eq_true rfl) (Nat.le_of_ble_eq_true rfl) (Nat.le_of_ble_eq_true rfl) rfl ?_
          refine v_if_eq (tgt := 83) dX3_parts_49 (by decide) rfl (fun q => absurd q (by decide)) (fun _ => ?_)
          refine v_aload_n dX3_parts_52 rfl rfl ?_
          refine v_getf dX3_parts_53 fl_X3_28 (by first | assumption | exact set_get (by assumption) | exact (set_ne (by decide)).trans (by assumption) | exact set_get (set_get (by assumption))) (by rfl) rfl ?_
          refine v_bipush (v := nI 12) dX3_parts_56 (by decide) rfl ?_
          refine v_iload_n dX3_parts_58 rfl rfl ?_
          refine v_imulN dX3_parts_59 rfl ?_
          refine v_iload dX3_parts_60 rfl rfl ?_
          refine v_iaddN dX3_parts_62 rfl ?_
          refine v_iald _ dX3_parts_63 (by first | assumption | exact set_get (by assumption) | exact (set_ne (by decide)).trans (by assumption) | exact set_get (set_get (by assumption))) rfl (by omega) (by decide) rfl ?_
          refine v_top (y := s.mr k a) ((hMk a ha k (by omega)).trans (if_pos hk)) ?_
          refine v_aload_n dX3_parts_64 rfl rfl ?_
          refine v_getf dX3_parts_65 fl_X3_28 (by first | assumption | exact set_get (by assumption) | exact (set_ne (by decide)).trans (by assumption) | exact set_get (set_get (by assumption))) (by rfl) rfl ?_
          refine v_bipush (v := nI 12) dX3_parts_68 (by decide) rfl ?_
          refine v_iload_n dX3_parts_70 rfl rfl ?_
          refine v_imulN dX3_parts_71 rfl ?_
          refine v_iload dX3_parts_72 rfl rfl ?_
          refine v_iaddN dX3_parts_74 rfl ?_
          refine v_iald _ dX3_parts_75 (by first | assumption | exact set_get (by assumption) | exact (set_ne (by decide)).trans (by assumption) | exact set_get (set_get (by assumption))) rfl (by omega) (by decide) rfl ?_
          refine v_top (y := s.mr k b) ((hMk b hb k (by omega)).trans (if_pos hk)) ?_
          refine v_isub dX3_parts_76 rfl ?_
          refine v_csf dX3_parts_77 cw_X3_93 ts_X3_size (c_size G hp (s.mr k a - s.mr k b)) (by rfl) (by rfl) (Nat.le_of_ble_eq_true rfl) (Nat.le_of_ble_eq_true rfl) (Nat.le_of_ble_eq_true rfl) (Nat.le_of_ble_eq_true rfl) (Nat.le_of_ble_eq_true rfl) rfl ?_
          refine v_goto (tgt := 84) dX3_parts_80 (by decide) ?_
          refine v_istore dX3_parts_84 (Nat.le_of_ble_eq_true rfl) rfl ?_
          refine v_iload dX3_parts_86 rfl rfl ?_
          refine v_iload dX3_parts_88 rfl rfl ?_
          refine v_icmp_le (tgt := 98) dX3_parts_90 (by decide) rfl (fun c90 => ?_) (fun c90 => ?_)
          · refine v_iload_n dX3_parts_98 rfl rfl ?_
            refine v_istore_n dX3_parts_99 (Nat.le_of_ble_eq_true rfl) rfl ?_
            refine v_iload dX3_parts_100 rfl rfl ?_
            refine v_iload dX3_parts_102 rfl rfl ?_
            refine v_icmp_le (tgt := 112) dX3_parts_104 (by decide) rfl (fun c104 => ?_) (fun c104 => ?_)
            · refine v_iload dX3_parts_112 rfl rfl ?_
              refine v_istore dX3_parts_114 (Nat.le_of_ble_eq_true rfl) rfl ?_
              refine v_iinc1 dX3_parts_116 rfl (Nat.le_of_ble_eq_true rfl) rfl ?_
              refine v_goto (tgt := 32) dX3_parts_119 (by decide) ?_
              first | exact absurd c90 c104 | exact absurd c104 c90 | exact absurd h0 c90 | (rw [prtS_t (w := k) ⟨q46, c90⟩] at ih; exact ih _) | (rw [prtS_f (w := k) (fun h => absurd h.1 q46)] at ih; exact ih _) | (rw [prtS_f (w := k) (fun h => absurd c90 h.2)] at ih; exact ih _)
            · refine v_iload dX3_parts_107 rfl rfl ?_
              refine v_goto (tgt := 114) dX3_parts_109 (by decide) ?_
              refine v_istore dX3_parts_114 (Nat.le_of_ble_eq_true rfl) rfl ?_
              refine v_iinc1 dX3_parts_116 rfl (Nat.le_of_ble_eq_true rfl) rfl ?_
              refine v_goto (tgt := 32) dX3_parts_119 (by decide) ?_
              first | exact absurd c90 c104 | exact absurd c104 c90 | exact absurd h0 c90 | (rw [prtS_t (w := k) ⟨q46, c90⟩] at ih; exact ih _) | (rw [prtS_f (w := k) (fun h => absurd h.1 q46)] at ih; exact ih _) | (rw [prtS_f (w := k) (fun h => absurd c90 h.2)] at ih; exact ih _)
          · refine v_iload dX3_parts_93 rfl rfl ?_
            refine v_goto (tgt := 99) dX3_parts_95 (by decide) ?_
            refine v_istore_n dX3_parts_99 (Nat.le_of_ble_eq_true rfl) rfl ?_
            refine v_iload dX3_parts_100 rfl rfl ?_
            refine v_iload dX3_parts_102 rfl rfl ?_
            refine v_icmp_le (tgt := 112) dX3_parts_104 (by decide) rfl (fun c104 => ?_) (fun c104 => ?_)
            · refine v_iload dX3_parts_112 rfl rfl ?_
              refine v_istore dX3_parts_114 (Nat.le_of_ble_eq_true rfl) rfl ?_
              refine v_iinc1 dX3_parts_116 rfl (Nat.le_of_ble_eq_true rfl) rfl ?_
              refine v_goto (tgt := 32) dX3_parts_119 (by decide) ?_
              first | exact absurd c90 c104 | exact absurd c104 c90 | exact absurd h0 c90 | (rw [prtS_t (w := k) ⟨q46, c90⟩] at ih; exact ih _) | (rw [prtS_f (w := k) (fun h => absurd h.1 q46)] at ih; exact ih _) | (rw [prtS_f (w := k) (fun h => absurd c90 h.2)] at ih; exact ih _)
            · refine v_iload dX3_parts_107 rfl rfl ?_
              refine v_goto (tgt := 114) dX3_parts_109 (by decide) ?_
              refine v_istore dX3_parts_114 (Nat.le_of_ble_eq_true rfl) rfl ?_
              refine v_iinc1 dX3_parts_116 rfl (Nat.le_of_ble_eq_true rfl) rfl ?_
              refine v_goto (tgt := 32) dX3_parts_119 (by decide) ?_
              first | exact absurd c90 c104 | exact absurd c104 c90 | exact absurd h0 c90 | (rw [prtS_t (w := k) ⟨q46, c90⟩] at ih; exact ih _) | (rw [prtS_f (w := k) (fun h => absurd h.1 q46)] at ih; exact ih _) | (rw [prtS_f (w := k) (fun h => absurd c90 h.2)] at ih; exact ih _)
        · refine v_cvf dX3_parts_46 cw_X3_97 ⟨tn_X3_both, tl_X3_both⟩ rfl (by first | assumption | exact set_get (by assumption) | exact (set_ne (by decide)).trans (by assumption) | exact set_get (set_get (by assumption))) ((m_both G hp hM ha hb hk).no ‹_›) (by rfl) (by rfl) (Nat.le_of_ble_eq_true rfl) (Nat.le_of_ble_eq_true rfl) (Nat.le_of_ble_eq_true rfl) (Nat.le_of_ble_eq_true rfl) (Nat.le_of_ble_eq_true rfl) rfl ?_
          refine v_if_eq (tgt := 83) dX3_parts_49 (by decide) rfl (fun _ => ?_) (fun q => absurd (by decide) q)
          refine v_iconst (v := nI 0) dX3_parts_83 (by decide) rfl ?_
          refine v_istore dX3_parts_84 (Nat.le_of_ble_eq_true rfl) rfl ?_
          refine v_iload dX3_parts_86 rfl rfl ?_
          refine v_iload dX3_parts_88 rfl rfl ?_
          refine v_icmp_le (tgt := 98) dX3_parts_90 (by decide) rfl (fun c90 => ?_) (fun c90 => ?_)
          · refine v_iload_n dX3_parts_98 rfl rfl ?_
            refine v_istore_n dX3_parts_99 (Nat.le_of_ble_eq_true rfl) rfl ?_
            refine v_iload dX3_parts_100 rfl rfl ?_
            refine v_iload dX3_parts_102 rfl rfl ?_
            refine v_icmp_le (tgt := 112) dX3_parts_104 (by decide) rfl (fun c104 => ?_) (fun c104 => ?_)
            · refine v_iload dX3_parts_112 rfl rfl ?_
              refine v_istore dX3_parts_114 (Nat.le_of_ble_eq_true rfl) rfl ?_
              refine v_iinc1 dX3_parts_116 rfl (Nat.le_of_ble_eq_true rfl) rfl ?_
              refine v_goto (tgt := 32) dX3_parts_119 (by decide) ?_
              first | exact absurd c90 c104 | exact absurd c104 c90 | exact absurd h0 c90 | (rw [prtS_t (w := k) ⟨q46, c90⟩] at ih; exact ih _) | (rw [prtS_f (w := k) (fun h => absurd h.1 q46)] at ih; exact ih _) | (rw [prtS_f (w := k) (fun h => absurd c90 h.2)] at ih; exact ih _)
            · refine v_iload dX3_parts_107 rfl rfl ?_
              refine v_goto (tgt := 114) dX3_parts_109 (by decide) ?_
              refine v_istore dX3_parts_114 (Nat.le_of_ble_eq_true rfl) rfl ?_
              refine v_iinc1 dX3_parts_116 rfl (Nat.le_of_ble_eq_true rfl) rfl ?_
              refine v_goto (tgt := 32) dX3_parts_119 (by decide) ?_
              first | exact absurd c90 c104 | exact absurd c104 c90 | exact absurd h0 c90 | (rw [prtS_t (w := k) ⟨q46, c90⟩] at ih; exact ih _) | (rw [prtS_f (w := k) (fun h => absurd h.1 q46)] at ih; exact ih _) | (rw [prtS_f (w := k) (fun h => absurd c90 h.2)] at ih; exact ih _)
          · refine v_iload dX3_parts_93 rfl rfl ?_
            refine v_goto (tgt := 99) dX3_parts_95 (by decide) ?_
            refine v_istore_n dX3_parts_99 (Nat.le_of_ble_eq_true rfl) rfl ?_
            refine v_iload dX3_parts_100 rfl rfl ?_
            refine v_iload dX3_parts_102 rfl rfl ?_
            refine v_icmp_le (tgt := 112) dX3_parts_104 (by decide) rfl (fun c104 => ?_) (fun c104 => ?_)
            · refine v_iload dX3_parts_112 rfl rfl ?_
              refine v_istore dX3_parts_114 (Nat.le_of_ble_eq_true rfl) rfl ?_
              refine v_iinc1 dX3_parts_116 rfl (Nat.le_of_ble_eq_true rfl) rfl ?_
              refine v_goto (tgt := 32) dX3_parts_119 (by decide) ?_
              first | exact absurd c90 c104 | exact absurd c104 c90 | exact absurd h0 c90 | (rw [prtS_t (w := k) ⟨q46, c90⟩] at ih; exact ih _) | (rw [prtS_f (w := k) (fun h => absurd h.1 q46)] at ih; exact ih _) | (rw [prtS_f (w := k) (fun h => absurd c90 h.2)] at ih; exact ih _)
            · refine v_iload dX3_parts_107 rfl rfl ?_
              refine v_goto (tgt := 114) dX3_parts_109 (by decide) ?_
              refine v_istore dX3_parts_114 (Nat.le_of_ble_eq_true rfl) rfl ?_
              refine v_iinc1 dX3_parts_116 rfl (Nat.le_of_ble_eq_true rfl) rfl ?_
              refine v_goto (tgt := 32) dX3_parts_119 (by decide) ?_
              first | exact absurd c90 c104 | exact absurd c104 c90 | exact absurd h0 c90 | (rw [prtS_t (w := k) ⟨q46, c90⟩] at ih; exact ih _) | (rw [prtS_f (w := k) (fun h => absurd h.1 q46)] at ih; exact ih _) | (rw [prtS_f (w := k) (fun h => absurd c90 h.2)] at ih; exact ih _)
  refine Ct.start 4 (by decide) rfl (Nat.le_of_ble_eq_true rfl) ?_
  refine v_iload_n dX3_parts_0 rfl rfl ?_
  refine v_csf dX3_parts_1 cw_X3_87 ts_X3_isMarker ((c_isMarker G hp (nI a)).yes (inR_nI ha (by decide))) (by rfl) (by rfl) (Nat.le_of_ble_eq_true rfl) (Nat.le_of_ble_eq_true rfl) (Nat.le_of_ble_eq_true rfl) (Nat.le_of_ble_eq_true rfl) (Nat.le_of_ble_eq_true rfl) rfl ?_
  refine v_if_eq (tgt := 19) dX3_parts_4 (by decide) rfl (fun q => absurd q (by decide)) (fun _ => ?_)
  refine v_iload_n dX3_parts_7 rfl rfl ?_
  refine v_csf dX3_parts_8 cw_X3_87 ts_X3_isMarker ((c_isMarker G hp (nI b)).yes (inR_nI hb (by decide))) (by rfl) (by rfl) (Nat.le_of_ble_eq_true rfl) (Nat.le_of_ble_eq_true rfl) (Nat.le_of_ble_eq_true rfl) (Nat.le_of_ble_eq_true rfl) (Nat.le_of_ble_eq_true rfl) rfl ?_
  refine v_if_eq (tgt := 19) dX3_parts_11 (by decide) rfl (fun q => absurd q (by decide)) (fun _ => ?_)
  refine v_iload_n dX3_parts_14 rfl rfl ?_
  refine v_iload_n dX3_parts_15 rfl rfl ?_
  refine v_icmp_neN (tgt := 22) dX3_parts_16 (by decide) rfl (by omega) (by omega) (fun c16 => ?_) (fun c16 => ?_)
  · refine v_sipush (v := (-900)) dX3_parts_22 (by decide) rfl ?_
    refine v_istore_n dX3_parts_25 (Nat.le_of_ble_eq_true rfl) rfl ?_
    refine v_iconst (v := nI 0) dX3_parts_26 (by decide) rfl ?_
    refine v_istore dX3_parts_27 (Nat.le_of_ble_eq_true rfl) rfl ?_
    refine v_iconst (v := nI 0) dX3_parts_29 (by decide) rfl ?_
    refine v_istore dX3_parts_30 (Nat.le_of_ble_eq_true rfl) rfl ?_
    exact key 0 (Nat.zero_le _) _
  · exact absurd c16 hab
theorem mm_parts_n {z x : Int32} (h : ¬ (InR z 3 ∧ InR x 3 ∧ ¬ z = x)) : Ct G mX3_parts 2 0 0 [.ref (G.2.2.2 + 31), .int z, .int x] hp (Qf (some (.int (-100))) hp) := by
  refine Ct.start 4 (by decide) rfl (Nat.le_of_ble_eq_true rfl) ?_
  refine v_iload_n dX3_parts_0 rfl rfl ?_
  by_cases q1 : InR z 3
  · refine v_csf dX3_parts_1 cw_X3_87 ts_X3_isMarker ((c_isMarker G hp z).yes ‹_›) (by rfl) (by rfl) (Nat.le_of_ble_eq_true rfl) (Nat.le_of_ble_eq_true rfl) (Nat.le_of_ble_eq_true rfl) (Nat.le_of_ble_eq_true rfl) (Nat.le_of_ble_eq_true rfl) rfl ?_
    refine v_if_eq (tgt := 19) dX3_parts_4 (by decide) rfl (fun q => absurd q (by decide)) (fun _ => ?_)
    refine v_iload_n dX3_parts_7 rfl rfl ?_
    by_cases q8 : InR x 3
    · refine v_csf dX3_parts_8 cw_X3_87 ts_X3_isMarker ((c_isMarker G hp x).yes ‹_›) (by rfl) (by rfl) (Nat.le_of_ble_eq_true rfl) (Nat.le_of_ble_eq_true rfl) (Nat.le_of_ble_eq_true rfl) (Nat.le_of_ble_eq_true rfl) (Nat.le_of_ble_eq_true rfl) rfl ?_
      refine v_if_eq (tgt := 19) dX3_parts_11 (by decide) rfl (fun q => absurd q (by decide)) (fun _ => ?_)
      refine v_iload_n dX3_parts_14 rfl rfl ?_
      refine v_iload_n dX3_parts_15 rfl rfl ?_
      refine v_icmp_ne (tgt := 22) dX3_parts_16 (by decide) rfl (fun c16 => ?_) (fun c16 => ?_)
      · exact absurd ⟨q1, q8, c16⟩ h
      · refine v_bipush (v := (-100)) dX3_parts_19 (by decide) rfl ?_
        exact v_iret dX3_parts_21 rfl ⟨Nat.le_of_ble_eq_true rfl, Nat.le_of_ble_eq_true rfl⟩ (⟨rfl, rfl⟩)
    · refine v_csf dX3_parts_8 cw_X3_87 ts_X3_isMarker ((c_isMarker G hp x).no ‹_›) (by rfl) (by rfl) (Nat.le_of_ble_eq_true rfl) (Nat.le_of_ble_eq_true rfl) (Nat.le_of_ble_eq_true rfl) (Nat.le_of_ble_eq_true rfl) (Nat.le_of_ble_eq_true rfl) rfl ?_
      refine v_if_eq (tgt := 19) dX3_parts_11 (by decide) rfl (fun _ => ?_) (fun q => absurd (by decide) q)
      refine v_bipush (v := (-100)) dX3_parts_19 (by decide) rfl ?_
      exact v_iret dX3_parts_21 rfl ⟨Nat.le_of_ble_eq_true rfl, Nat.le_of_ble_eq_true rfl⟩ (⟨rfl, rfl⟩)
  · refine v_csf dX3_parts_1 cw_X3_87 ts_X3_isMarker ((c_isMarker G hp z).no ‹_›) (by rfl) (by rfl) (Nat.le_of_ble_eq_true rfl) (Nat.le_of_ble_eq_true rfl) (Nat.le_of_ble_eq_true rfl) (Nat.le_of_ble_eq_true rfl) (Nat.le_of_ble_eq_true rfl) rfl ?_
    refine v_if_eq (tgt := 19) dX3_parts_4 (by decide) rfl (fun _ => ?_) (fun q => absurd (by decide) q)
    refine v_bipush (v := (-100)) dX3_parts_19 (by decide) rfl ?_
    exact v_iret dX3_parts_21 rfl ⟨Nat.le_of_ble_eq_true rfl, Nat.le_of_ble_eq_true rfl⟩ (⟨rfl, rfl⟩)
noncomputable abbrev oOff (G : GG) (s : ST) (y : YT) (m k : Nat) : va_E := obj3 G s.n s.tc (offS s m k) (nI (cnt (offP s m) k)) y.2.2.2.2.2
theorem m_findOff (hM : PM G s y hp) {m : Nat} (hm : m < 3) : Ct G mX3_findOff 0 0 0 [.ref (G.2.2.2 + 31), .int (nI m)] hp (Qf none (hp.set 31 (oOff G s y m s.n))) := by
  obtain ⟨m0, m1, m2, m3, m4, m5, m6, m7, m8, m9, m10⟩ := hM.pr
  obtain ⟨hK, hF, hWf, hMk, hTr, hn⟩ := hM.pp
  have key : ∀ k, k ≤ s.n → Vm G mX3_findOff 0 0 0 (Qf none (hp.set 31 (oOff G s y m s.n))) 12 [some (.ref (G.2.2.2 + 31)), some (.int (nI m)), some (.int (nI k))] [] (hp.set 31 (oOff G s y m k)) 0 0 := by
    refine loop_up ?_ (fun k hk ih => ?_)
    · refine v_iload_n dX3_findOff_12 rfl rfl ?_
      refine v_aload_n dX3_findOff_13 rfl rfl ?_
      refine v_getf dX3_findOff_14 fl_X3_77 (by first | assumption | exact set_get (by assumption) | exact (set_ne (by decide)).trans (by assumption) | exact set_get (set_get (by assumption))) (by rfl) rfl ?_
      refine v_icmp_geN (tgt := 92) dX3_findOff_17 (by decide) rfl (by omega) (by omega) (fun c17 => ?_) (fun c17 => ?_)
      · exact v_vret dX3_findOff_92 rfl ⟨Nat.le_of_ble_eq_true rfl, Nat.le_of_ble_eq_true rfl⟩ (⟨rfl, rfl⟩)
      · exact absurd c17 (by omega)
    · refine v_iload_n dX3_findOff_12 rfl rfl ?_
      refine v_aload_n dX3_findOff_13 rfl rfl ?_
      refine v_getf dX3_findOff_14 fl_X3_77 (by first | assumption | exact set_get (by assumption) | exact (set_ne (by decide)).trans (by assumption) | exact set_get (set_get (by assumption))) (by rfl) rfl ?_
      refine v_icmp_geN (tgt := 92) dX3_findOff_17 (by decide) rfl (by omega) (by omega) (fun c17 => ?_) (fun c17 => ?_)
      · exact absurd c17 (by omega)
      · refine v_aload_n dX3_findOff_20 rfl rfl ?_
        refine v_getf dX3_findOff_21 fl_X3_31 (by first | assumption | exact set_get (by assumption) | exact (set_ne (by decide)).trans (by assumption) | exact set_get (set_get (by assumption))) (by rfl) rfl ?_
        refine v_iload_n dX3_findOff_24 rfl rfl ?_
        refine v_iald _ dX3_findOff_25 (by first | assumption | exact set_get (by assumption) | exact (set_ne (by decide)).trans (by assumption) | exact set_get (set_get (by assumption))) rfl (by omega) (by decide) rfl ?_
        refine v_top (y := s.tr k) ((hTr k (by omega)).trans (if_pos hk)) ?_
        refine v_sipush (v := (-900)) dX3_findOff_26 (by decide) rfl ?_
        refine v_icmp_eq (tgt := 86) dX3_findOff_29 (by decide) rfl (fun c29 => ?_) (fun c29 => ?_)
        · refine v_iinc1 dX3_findOff_86 rfl (Nat.le_of_ble_eq_true rfl) rfl ?_
          refine v_goto (tgt := 12) dX3_findOff_89 (by decide) ?_
          first | (unfold oOff at ih; rw [offS_f (k := k) (fun h => h.1 ‹_›), cnt_f (p := offP s m) (n := k) (fun h => h.1 ‹_›)] at ih; exact ih) | (unfold oOff at ih; rw [offS_f (k := k) (fun h => h.2 ‹_›), cnt_f (p := offP s m) (n := k) (fun h => h.2 ‹_›)] at ih; exact ih) | (unfold oOff at ih; rw [offS_t (k := k) ⟨‹_›, ‹_›⟩, cnt_t (p := offP s m) (n := k) ⟨‹_›, ‹_›⟩] at ih; refine v_hp (List.set_set ..) (v_hp (List.set_set ..) ?_); exact ih)
        · refine v_aload_n dX3_findOff_32 rfl rfl ?_
          refine v_getf dX3_findOff_33 fl_X3_28 (by first | assumption | exact set_get (by assumption) | exact (set_ne (by decide)).trans (by assumption) | exact set_get (set_get (by assumption))) (by rfl) rfl ?_
          refine v_bipush (v := nI 12) dX3_findOff_36 (by decide) rfl ?_
          refine v_iload_n dX3_findOff_38 rfl rfl ?_
          refine v_imulN dX3_findOff_39 rfl ?_
          refine v_iload_n dX3_findOff_40 rfl rfl ?_
          refine v_iaddN dX3_findOff_41 rfl ?_
          refine v_iald _ dX3_findOff_42 (by first | assumption | exact set_get (by assumption) | exact (set_ne (by decide)).trans (by assumption) | exact set_get (set_get (by assumption))) rfl (by omega) (by decide) rfl ?_
          refine v_top (y := s.mr k m) ((hMk m hm k (by omega)).trans (if_pos hk)) ?_
          refine v_sipush (v := (-900)) dX3_findOff_43 (by decide) rfl ?_
          refine v_icmp_eq (tgt := 86) dX3_findOff_46 (by decide) rfl (fun c46 => ?_) (fun c46 => ?_)
          · refine v_iinc1 dX3_findOff_86 rfl (Nat.le_of_ble_eq_true rfl) rfl ?_
            refine v_goto (tgt := 12) dX3_findOff_89 (by decide) ?_
            first | (unfold oOff at ih; rw [offS_f (k := k) (fun h => h.1 ‹_›), cnt_f (p := offP s m) (n := k) (fun h => h.1 ‹_›)] at ih; exact ih) | (unfold oOff at ih; rw [offS_f (k := k) (fun h => h.2 ‹_›), cnt_f (p := offP s m) (n := k) (fun h => h.2 ‹_›)] at ih; exact ih) | (unfold oOff at ih; rw [offS_t (k := k) ⟨‹_›, ‹_›⟩, cnt_t (p := offP s m) (n := k) ⟨‹_›, ‹_›⟩] at ih; refine v_hp (List.set_set ..) (v_hp (List.set_set ..) ?_); exact ih)
          · refine v_aload_n dX3_findOff_49 rfl rfl ?_
            refine v_dup dX3_findOff_50 rfl rfl ?_
            refine v_getf dX3_findOff_51 fl_X3_107 (by first | assumption | exact set_get (by assumption) | exact (set_ne (by decide)).trans (by assumption) | exact set_get (set_get (by assumption))) (by rfl) rfl ?_
            refine v_aload_n dX3_findOff_54 rfl rfl ?_
            refine v_getf dX3_findOff_55 fl_X3_28 (by first | assumption | exact set_get (by assumption) | exact (set_ne (by decide)).trans (by assumption) | exact set_get (set_get (by assumption))) (by rfl) rfl ?_
            refine v_bipush (v := nI 12) dX3_findOff_58 (by decide) rfl ?_
            refine v_iload_n dX3_findOff_60 rfl rfl ?_
            refine v_imulN dX3_findOff_61 rfl ?_
            refine v_iload_n dX3_findOff_62 rfl rfl ?_
            refine v_iaddN dX3_findOff_63 rfl ?_
            refine v_iald _ dX3_findOff_64 (by first | assumption | exact set_get (by assumption) | exact (set_ne (by decide)).trans (by assumption) | exact set_get (set_get (by assumption))) rfl (by omega) (by decide) rfl ?_
            refine v_top (y := s.mr k m) ((hMk m hm k (by omega)).trans (if_pos hk)) ?_
            refine v_aload_n dX3_findOff_65 rfl rfl ?_
            refine v_getf dX3_findOff_66 fl_X3_31 (by first | assumption | exact set_get (by assumption) | exact (set_ne (by decide)).trans (by assumption) | exact set_get (set_get (by assumption))) (by rfl) rfl ?_
            refine v_iload_n dX3_findOff_69 rfl rfl ?_
            refine v_iald _ dX3_findOff_70 (by first | assumption | exact set_get (by assumption) | exact (set_ne (by decide)).trans (by assumption) | exact set_get (set_get (by assumption))) rfl (by omega) (by decide) rfl ?_
            refine v_top (y := s.tr k) ((hTr k (by omega)).trans (if_pos hk)) ?_
            refine v_isub dX3_findOff_71 rfl ?_
            refine v_iadd dX3_findOff_72 rfl ?_
            refine v_putf dX3_findOff_73 fl_X3_107 (by first | assumption | exact set_get (by assumption) | exact (set_ne (by decide)).trans (by assumption) | exact set_get (set_get (by assumption))) (by rfl) (by rfl) (by exact Nat.le_of_ble_eq_true rfl) rfl ?_
            refine v_aload_n dX3_findOff_76 rfl rfl ?_
            refine v_dup dX3_findOff_77 rfl rfl ?_
            refine v_getf dX3_findOff_78 fl_X3_110 (by first | assumption | exact set_get (by assumption) | exact (set_ne (by decide)).trans (by assumption) | exact set_get (set_get (by assumption))) (by rfl) rfl ?_
            refine v_iconst (v := nI 1) dX3_findOff_81 (by decide) rfl ?_
            refine v_iaddN dX3_findOff_82 rfl ?_
            refine v_putf dX3_findOff_83 fl_X3_110 (by first | assumption | exact set_get (by assumption) | exact (set_ne (by decide)).trans (by assumption) | exact set_get (set_get (by assumption))) (by rfl) (by rfl) (by exact Nat.le_of_ble_eq_true rfl) rfl ?_
            refine v_iinc1 dX3_findOff_86 rfl (Nat.le_of_ble_eq_true rfl) rfl ?_
            refine v_goto (tgt := 12) dX3_findOff_89 (by decide) ?_
            first | (unfold oOff at ih; rw [offS_f (k := k) (fun h => h.1 ‹_›), cnt_f (p := offP s m) (n := k) (fun h => h.1 ‹_›)] at ih; exact ih) | (unfold oOff at ih; rw [offS_f (k := k) (fun h => h.2 ‹_›), cnt_f (p := offP s m) (n := k) (fun h => h.2 ‹_›)] at ih; exact ih) | (unfold oOff at ih; rw [offS_t (k := k) ⟨‹_›, ‹_›⟩, cnt_t (p := offP s m) (n := k) ⟨‹_›, ‹_›⟩] at ih; refine v_hp (List.set_set ..) (v_hp (List.set_set ..) ?_); exact ih)
  refine Ct.start 1 (by decide) rfl (Nat.le_of_ble_eq_true rfl) ?_
  refine v_aload_n dX3_findOff_0 rfl rfl ?_
  refine v_iconst (v := nI 0) dX3_findOff_1 (by decide) rfl ?_
  refine v_putf dX3_findOff_2 fl_X3_107 (by first | assumption | exact set_get (by assumption) | exact (set_ne (by decide)).trans (by assumption) | exact set_get (set_get (by assumption))) (by rfl) (by rfl) (by exact Nat.le_of_ble_eq_true rfl) rfl ?_
  refine v_aload_n dX3_findOff_5 rfl rfl ?_
  refine v_iconst (v := nI 0) dX3_findOff_6 (by decide) rfl ?_
  refine v_putf dX3_findOff_7 fl_X3_110 (by first | assumption | exact set_get (by assumption) | exact (set_ne (by decide)).trans (by assumption) | exact set_get (set_get (by assumption))) (by rfl) (by rfl) (by exact Nat.le_of_ble_eq_true rfl) rfl ?_
  refine v_iconst (v := nI 0) dX3_findOff_10 (by decide) rfl ?_
  refine v_istore_n dX3_findOff_11 (Nat.le_of_ble_eq_true rfl) rfl ?_
  exact v_hp (List.set_set ..) (key 0 (Nat.zero_le _))
theorem PM.off (hM : PM G s y hp) (m : Nat) : PM G s (y.1, y.2.1, y.2.2.1, (offS s m s.n, nI (cnt (offP s m) s.n), y.2.2.2.2.2)) (hp.set 31 (oOff G s y m s.n)) := PM.of (hM.pr.setO s.n s.tc _ _ _) hM.pp
theorem mm_off_y (hM : PM G s y hp) (hI : Inv s) {m p : Nat} (hm : m < 3) (hp3 : p < 3) : Ct G mX3_off 2 0 0 [.ref (G.2.2.2 + 31), .int (nI m), .int (nI p)] hp (QM G hp (ofI s m p) s) := by
  obtain ⟨m0, m1, m2, m3, m4, m5, m6, m7, m8, m9, m10⟩ := hM.pr
  have hn := hI.2.2.2
  have hb := offS_bd hI hm s.n (Nat.le_refl _)
  have hA : cnt (offP s m) s.n ≤ 12 := Nat.le_trans (cnt_le _ _) hn
  refine Ct.start 1 (by decide) rfl (Nat.le_of_ble_eq_true rfl) ?_
  refine v_iload_n dX3_off_0 rfl rfl ?_
  refine v_csf dX3_off_1 cw_X3_87 ts_X3_isMarker ((c_isMarker G hp (nI m)).yes (inR_nI hm (by decide))) (by rfl) (by rfl) (Nat.le_of_ble_eq_true rfl) (Nat.le_of_ble_eq_true rfl) (Nat.le_of_ble_eq_true rfl) (Nat.le_of_ble_eq_true rfl) (Nat.le_of_ble_eq_true rfl) rfl ?_
  refine v_if_eq (tgt := 16) dX3_off_4 (by decide) rfl (fun q => absurd q (by decide)) (fun _ => ?_)
  refine v_iload_n dX3_off_7 rfl rfl ?_
  refine v_iconst (v := nI 0) dX3_off_8 (by decide) rfl ?_
  refine v_iconst (v := nI 2) dX3_off_9 (by decide) rfl ?_
  refine v_csf dX3_off_10 cw_X3_40 ts_X3_in ((c_in0 G hp (nI p) 2 (by decide)).yes (inR_nI hp3 (by decide))) (by rfl) (by rfl) (Nat.le_of_ble_eq_true rfl) (Nat.le_of_ble_eq_true rfl) (Nat.le_of_ble_eq_true rfl) (Nat.le_of_ble_eq_true rfl) (Nat.le_of_ble_eq_true rfl) rfl ?_
  refine v_if_ne (tgt := 19) dX3_off_13 (by decide) rfl (fun _ => ?_) (fun q => absurd q (by decide))
  refine v_aload_n dX3_off_19 rfl rfl ?_
  refine v_iload_n dX3_off_20 rfl rfl ?_
  refine v_cvn dX3_off_21 cw_X3_113 ⟨tn_X3_findOff, tl_X3_findOff⟩ rfl (by first | assumption | exact set_get (by assumption) | exact (set_ne (by decide)).trans (by assumption) | exact set_get (set_get (by assumption))) (m_findOff G hp hM hm) (by rfl) (by rfl) (Nat.le_of_ble_eq_true rfl) (Nat.le_of_ble_eq_true rfl) (Nat.le_of_ble_eq_true rfl) (Nat.le_of_ble_eq_true rfl) (Nat.le_of_ble_eq_true rfl) rfl ?_
  refine v_iload_n dX3_off_24 rfl rfl ?_
  refine v_iconst (v := nI 2) dX3_off_25 (by decide) rfl ?_
  refine v_icmp_neN (tgt := 34) dX3_off_26 (by decide) rfl (by omega) (by omega) (fun c26 => ?_) (fun c26 => ?_)
  · refine v_aload_n dX3_off_34 rfl rfl ?_
    refine v_getf dX3_off_35 fl_X3_110 (by first | assumption | exact set_get (by assumption) | exact (set_ne (by decide)).trans (by assumption) | exact set_get (set_get (by assumption))) (by rfl) rfl ?_
    refine v_if_neN (tgt := 45) dX3_off_38 (by decide) rfl (by omega) (fun c38 => ?_) (fun c38 => ?_)
    · refine v_aload_n dX3_off_45 rfl rfl ?_
      refine v_getf dX3_off_46 fl_X3_107 (by first | assumption | exact set_get (by assumption) | exact (set_ne (by decide)).trans (by assumption) | exact set_get (set_get (by assumption))) (by rfl) rfl ?_
      refine v_aload_n dX3_off_49 rfl rfl ?_
      refine v_getf dX3_off_50 fl_X3_110 (by first | assumption | exact set_get (by assumption) | exact (set_ne (by decide)).trans (by assumption) | exact set_get (set_get (by assumption))) (by rfl) rfl ?_
      refine v_csf dX3_off_53 cw_X3_104 ts_X3_common (m_common G _ (offS s m s.n) (by omega) (l := cnt (offP s m) s.n) (by omega)) (by rfl) (by rfl) (Nat.le_of_ble_eq_true rfl) (Nat.le_of_ble_eq_true rfl) (Nat.le_of_ble_eq_true rfl) (Nat.le_of_ble_eq_true rfl) (Nat.le_of_ble_eq_true rfl) rfl ?_
      have g1 : 0 < Nat.gcd (offS s m s.n).toInt.natAbs (cnt (offP s m) s.n) := Nat.gcd_pos_of_pos_right _ (by omega)
      have g2 := Nat.le_of_dvd (show 0 < cnt (offP s m) s.n by omega) (Nat.gcd_dvd_right (offS s m s.n).toInt.natAbs (cnt (offP s m) s.n))
      refine v_istore_n dX3_off_56 (Nat.le_of_ble_eq_true rfl) rfl ?_
      refine v_iload_n dX3_off_57 rfl rfl ?_
      refine v_if_neN (tgt := 70) dX3_off_58 (by decide) rfl (by omega) (fun c58 => ?_) (fun c58 => ?_)
      · refine v_aload_n dX3_off_70 rfl rfl ?_
        refine v_getf dX3_off_71 fl_X3_110 (by first | assumption | exact set_get (by assumption) | exact (set_ne (by decide)).trans (by assumption) | exact set_get (set_get (by assumption))) (by rfl) rfl ?_
        refine v_iload_n dX3_off_74 rfl rfl ?_
        refine v_idivN dX3_off_75 (by omega) (by omega) (by omega) rfl ?_
        exact v_iret dX3_off_76 rfl ⟨Nat.le_of_ble_eq_true rfl, Nat.le_of_ble_eq_true rfl⟩ (⟨by first | (rw [ofI, if_pos ‹_›]; done) | (rw [ofI, if_neg ‹_›, ratI, if_pos ‹_›]; done) | (rw [ofI, if_neg ‹_›, ratI, if_neg ‹_›, if_pos (show nI p = 0 by rw [c58]; rfl)]; done) | (rw [ofI, if_neg ‹_›, ratI, if_neg ‹_›, if_neg (nI_ne0 (Nat.pos_of_ne_zero c58) (by omega))]; done), ⟨_, PM.off G hp hM m⟩, FrM.rf.set (by omega)⟩)
      · refine v_aload_n dX3_off_61 rfl rfl ?_
        refine v_getf dX3_off_62 fl_X3_107 (by first | assumption | exact set_get (by assumption) | exact (set_ne (by decide)).trans (by assumption) | exact set_get (set_get (by assumption))) (by rfl) rfl ?_
        refine v_iload_n dX3_off_65 rfl rfl ?_
        refine v_idiv dX3_off_66 (nI_ne0 g1 (by omega)) rfl ?_
        refine v_goto (tgt := 76) dX3_off_67 (by decide) ?_
        exact v_iret dX3_off_76 rfl ⟨Nat.le_of_ble_eq_true rfl, Nat.le_of_ble_eq_true rfl⟩ (⟨by first | (rw [ofI, if_pos ‹_›]; done) | (rw [ofI, if_neg ‹_›, ratI, if_pos ‹_›]; done) | (rw [ofI, if_neg ‹_›, ratI, if_neg ‹_›, if_pos (show nI p = 0 by rw [c58]; rfl)]; done) | (rw [ofI, if_neg ‹_›, ratI, if_neg ‹_›, if_neg (nI_ne0 (Nat.pos_of_ne_zero c58) (by omega))]; done), ⟨_, PM.off G hp hM m⟩, FrM.rf.set (by omega)⟩)
    · refine v_sipush (v := (-200)) dX3_off_41 (by decide) rfl ?_
      exact v_iret dX3_off_44 rfl ⟨Nat.le_of_ble_eq_true rfl, Nat.le_of_ble_eq_true rfl⟩ (⟨by first | (rw [ofI, if_pos ‹_›]; done) | (rw [ofI, if_neg ‹_›, ratI, if_pos ‹_›]; done) | (rw [ofI, if_neg ‹_›, ratI, if_neg ‹_›, if_pos (show nI p = 0 by rw [c58]; rfl)]; done) | (rw [ofI, if_neg ‹_›, ratI, if_neg ‹_›, if_neg (nI_ne0 (Nat.pos_of_ne_zero c58) (by omega))]; done), ⟨_, PM.off G hp hM m⟩, FrM.rf.set (by omega)⟩)
  · refine v_aload_n dX3_off_29 rfl rfl ?_
    refine v_getf dX3_off_30 fl_X3_110 (by first | assumption | exact set_get (by assumption) | exact (set_ne (by decide)).trans (by assumption) | exact set_get (set_get (by assumption))) (by rfl) rfl ?_
    exact v_iret dX3_off_33 rfl ⟨Nat.le_of_ble_eq_true rfl, Nat.le_of_ble_eq_true rfl⟩ (⟨by first | (rw [ofI, if_pos ‹_›]; done) | (rw [ofI, if_neg ‹_›, ratI, if_pos ‹_›]; done) | (rw [ofI, if_neg ‹_›, ratI, if_neg ‹_›, if_pos (show nI p = 0 by rw [c58]; rfl)]; done) | (rw [ofI, if_neg ‹_›, ratI, if_neg ‹_›, if_neg (nI_ne0 (Nat.pos_of_ne_zero c58) (by omega))]; done), ⟨_, PM.off G hp hM m⟩, FrM.rf.set (by omega)⟩)
theorem mm_off_n {z p : Int32} (h : ¬ (InR z 3 ∧ InR p 3)) : Ct G mX3_off 2 0 0 [.ref (G.2.2.2 + 31), .int z, .int p] hp (Qf (some (.int (-100))) hp) := by
  refine Ct.start 1 (by decide) rfl (Nat.le_of_ble_eq_true rfl) ?_
  refine v_iload_n dX3_off_0 rfl rfl ?_
  by_cases q1 : InR z 3
  · refine v_csf dX3_off_1 cw_X3_87 ts_X3_isMarker ((c_isMarker G hp z).yes ‹_›) (by rfl) (by rfl) (Nat.le_of_ble_eq_true rfl) (Nat.le_of_ble_eq_true rfl) (Nat.le_of_ble_eq_true rfl) (Nat.le_of_ble_eq_true rfl) (Nat.le_of_ble_eq_true rfl) rfl ?_
    refine v_if_eq (tgt := 16) dX3_off_4 (by decide) rfl (fun q => absurd q (by decide)) (fun _ => ?_)
    refine v_iload_n dX3_off_7 rfl rfl ?_
    refine v_iconst (v := nI 0) dX3_off_8 (by decide) rfl ?_
    refine v_iconst (v := nI 2) dX3_off_9 (by decide) rfl ?_
    by_cases q10 : InR p 3
    · refine v_csf dX3_off_10 cw_X3_40 ts_X3_in ((c_in0 G hp p 2 (by decide)).yes ‹_›) (by rfl) (by rfl) (Nat.le_of_ble_eq_true rfl) (Nat.le_of_ble_eq_true rfl) (Nat.le_of_ble_eq_true rfl) (Nat.le_of_ble_eq_true rfl) (Nat.le_of_ble_eq_true rfl) rfl ?_
      refine v_if_ne (tgt := 19) dX3_off_13 (by decide) rfl (fun _ => ?_) (fun q => absurd q (by decide))
      exact absurd ⟨q1, q10⟩ h
    · refine v_csf dX3_off_10 cw_X3_40 ts_X3_in ((c_in0 G hp p 2 (by decide)).no ‹_›) (by rfl) (by rfl) (Nat.le_of_ble_eq_true rfl) (Nat.le_of_ble_eq_true rfl) (Nat.le_of_ble_eq_true rfl) (Nat.le_of_ble_eq_true rfl) (Nat.le_of_ble_eq_true rfl) rfl ?_
      refine v_if_ne (tgt := 19) dX3_off_13 (by decide) rfl (fun q => absurd (by decide) q) (fun _ => ?_)
      refine v_bipush (v := (-100)) dX3_off_16 (by decide) rfl ?_
      exact v_iret dX3_off_18 rfl ⟨Nat.le_of_ble_eq_true rfl, Nat.le_of_ble_eq_true rfl⟩ (⟨rfl, rfl⟩)
  · refine v_csf dX3_off_1 cw_X3_87 ts_X3_isMarker ((c_isMarker G hp z).no ‹_›) (by rfl) (by rfl) (Nat.le_of_ble_eq_true rfl) (Nat.le_of_ble_eq_true rfl) (Nat.le_of_ble_eq_true rfl) (Nat.le_of_ble_eq_true rfl) (Nat.le_of_ble_eq_true rfl) rfl ?_
    refine v_if_eq (tgt := 16) dX3_off_4 (by decide) rfl (fun _ => ?_) (fun q => absurd (by decide) q)
    refine v_bipush (v := (-100)) dX3_off_16 (by decide) rfl ?_
    exact v_iret dX3_off_18 rfl ⟨Nat.le_of_ble_eq_true rfl, Nat.le_of_ble_eq_true rfl⟩ (⟨rfl, rfl⟩)
theorem mm_fair_y (hM : PM G s y hp) (hI : Inv s) {m w : Nat} (hm : m < 3) (hw : w < s.n) : Ct G mX3_fair 2 0 0 [.ref (G.2.2.2 + 31), .int (nI m), .int (nI w)] hp (QM G hp (frI s m w) s) := by
  obtain ⟨m0, m1, m2, m3, m4, m5, m6, m7, m8, m9, m10⟩ := hM.pr
  obtain ⟨hK, hF, hWf, hMk, hTr, hn⟩ := hM.pp
  have hA : cnt (offP s m) s.n ≤ 12 := Nat.le_trans (cnt_le _ _) hn
  refine Ct.start 3 (by decide) rfl (Nat.le_of_ble_eq_true rfl) ?_
  refine v_iload_n dX3_fair_0 rfl rfl ?_
  refine v_csf dX3_fair_1 cw_X3_87 ts_X3_isMarker ((c_isMarker G hp (nI m)).yes (inR_nI hm (by decide))) (by rfl) (by rfl) (Nat.le_of_ble_eq_true rfl) (Nat.le_of_ble_eq_true rfl) (Nat.le_of_ble_eq_true rfl) (Nat.le_of_ble_eq_true rfl) (Nat.le_of_ble_eq_true rfl) rfl ?_
  refine v_if_eq (tgt := 15) dX3_fair_4 (by decide) rfl (fun q => absurd q (by decide)) (fun _ => ?_)
  refine v_aload_n dX3_fair_7 rfl rfl ?_
  refine v_iload_n dX3_fair_8 rfl rfl ?_
  refine v_cvf dX3_fair_9 cw_X3_81 ⟨tn_X3_isWork, tl_X3_isWork⟩ rfl (by first | assumption | exact set_get (by assumption) | exact (set_ne (by decide)).trans (by assumption) | exact set_get (set_get (by assumption))) ((m_isWork G hp hM (nI w)).yes (inR_nI hw (by omega))) (by rfl) (by rfl) (Nat.le_of_ble_eq_true rfl) (Nat.le_of_ble_eq_true rfl) (Nat.le_of_ble_eq_true rfl) (Nat.le_of_ble_eq_true rfl) (Nat.le_of_ble_eq_true rfl) rfl ?_
  refine v_if_ne (tgt := 18) dX3_fair_12 (by decide) rfl (fun _ => ?_) (fun q => absurd q (by decide))
  refine v_aload_n dX3_fair_18 rfl rfl ?_
  refine v_iload_n dX3_fair_19 rfl rfl ?_
  refine v_cvn dX3_fair_20 cw_X3_113 ⟨tn_X3_findOff, tl_X3_findOff⟩ rfl (by first | assumption | exact set_get (by assumption) | exact (set_ne (by decide)).trans (by assumption) | exact set_get (set_get (by assumption))) (m_findOff G hp hM hm) (by rfl) (by rfl) (Nat.le_of_ble_eq_true rfl) (Nat.le_of_ble_eq_true rfl) (Nat.le_of_ble_eq_true rfl) (Nat.le_of_ble_eq_true rfl) (Nat.le_of_ble_eq_true rfl) rfl ?_
  refine v_aload_n dX3_fair_23 rfl rfl ?_
  refine v_getf dX3_fair_24 fl_X3_28 (by first | assumption | exact set_get (by assumption) | exact (set_ne (by decide)).trans (by assumption) | exact set_get (set_get (by assumption))) (by rfl) rfl ?_
  refine v_bipush (v := nI 12) dX3_fair_27 (by decide) rfl ?_
  refine v_iload_n dX3_fair_29 rfl rfl ?_
  refine v_imulN dX3_fair_30 rfl ?_
  refine v_iload_n dX3_fair_31 rfl rfl ?_
  refine v_iaddN dX3_fair_32 rfl ?_
  refine v_iald _ dX3_fair_33 (by first | assumption | exact set_get (by assumption) | exact (set_ne (by decide)).trans (by assumption) | exact set_get (set_get (by assumption))) rfl (by omega) (by decide) rfl ?_
  refine v_top (y := s.mr w m) ((hMk m hm w (by omega)).trans (if_pos hw)) ?_
  refine v_istore_n dX3_fair_34 (Nat.le_of_ble_eq_true rfl) rfl ?_
  refine v_iload_n dX3_fair_35 rfl rfl ?_
  refine v_sipush (v := (-900)) dX3_fair_36 (by decide) rfl ?_
  refine v_icmp_eq (tgt := 49) dX3_fair_39 (by decide) rfl (fun c39 => ?_) (fun c39 => ?_)
  · refine v_sipush (v := (-200)) dX3_fair_49 (by decide) rfl ?_
    exact v_iret dX3_fair_52 rfl ⟨Nat.le_of_ble_eq_true rfl, Nat.le_of_ble_eq_true rfl⟩ (⟨by first | (rw [frI_f (fun q => q.1 ‹_›)]; done) | (rw [frI_f (fun q => by have := q.2; omega)]; done) | (rw [fa_ok hI hm hw c39 (Nat.pos_of_ne_zero c46)]; unfold fmI; (repeat' split) <;> first | rfl | contradiction), ⟨_, PM.off G hp hM m⟩, FrM.rf.set (by omega)⟩)
  · refine v_aload_n dX3_fair_42 rfl rfl ?_
    refine v_getf dX3_fair_43 fl_X3_110 (by first | assumption | exact set_get (by assumption) | exact (set_ne (by decide)).trans (by assumption) | exact set_get (set_get (by assumption))) (by rfl) rfl ?_
    refine v_if_neN (tgt := 53) dX3_fair_46 (by decide) rfl (by omega) (fun c46 => ?_) (fun c46 => ?_)
    · refine v_iconst (v := nI 0) dX3_fair_53 (by decide) rfl ?_
      refine v_istore dX3_fair_54 (Nat.le_of_ble_eq_true rfl) rfl ?_
      refine v_iconst (v := nI 1) dX3_fair_56 (by decide) rfl ?_
      refine v_istore dX3_fair_57 (Nat.le_of_ble_eq_true rfl) rfl ?_
      refine v_iload dX3_fair_59 rfl rfl ?_
      refine v_iconst (v := nI 4) dX3_fair_61 (by decide) rfl ?_
      refine v_icmp_ge (tgt := 107) dX3_fair_62 (by decide) rfl (fun q => absurd q (by decide)) (fun _ => ?_)
      refine v_iconst (v := nI 2) dX3_fair_65 (by decide) rfl ?_
      refine v_iload dX3_fair_66 rfl rfl ?_
      refine v_imul dX3_fair_68 rfl ?_
      refine v_top (y := nI 2) (by decide) ?_
      refine v_iconst (v := nI 1) dX3_fair_69 (by decide) rfl ?_
      refine v_isub dX3_fair_70 rfl ?_
      refine v_top (y := nI 1) (by decide) ?_
      refine v_aload_n dX3_fair_71 rfl rfl ?_
      refine v_getf dX3_fair_72 fl_X3_110 (by first | assumption | exact set_get (by assumption) | exact (set_ne (by decide)).trans (by assumption) | exact set_get (set_get (by assumption))) (by rfl) rfl ?_
      refine v_imulN dX3_fair_75 rfl ?_
      refine v_iconst (v := nI 2) dX3_fair_76 (by decide) rfl ?_
      refine v_iload_n dX3_fair_77 rfl rfl ?_
      refine v_aload_n dX3_fair_78 rfl rfl ?_
      refine v_getf dX3_fair_79 fl_X3_110 (by first | assumption | exact set_get (by assumption) | exact (set_ne (by decide)).trans (by assumption) | exact set_get (set_get (by assumption))) (by rfl) rfl ?_
      refine v_imul dX3_fair_82 rfl ?_
      refine v_aload_n dX3_fair_83 rfl rfl ?_
      refine v_getf dX3_fair_84 fl_X3_107 (by first | assumption | exact set_get (by assumption) | exact (set_ne (by decide)).trans (by assumption) | exact set_get (set_get (by assumption))) (by rfl) rfl ?_
      refine v_isub dX3_fair_87 rfl ?_
      refine v_imul dX3_fair_88 rfl ?_
      refine v_icmp_gtA (tgt := 97) dX3_fair_89 (by decide) rfl (fun c89 => ?_) (fun c89 => ?_)
      · refine v_iload dX3_fair_97 rfl rfl ?_
        refine v_istore dX3_fair_99 (Nat.le_of_ble_eq_true rfl) rfl ?_
        refine v_iinc (v := nI 2) dX3_fair_101 rfl (by decide) (Nat.le_of_ble_eq_true rfl) rfl ?_
        refine v_goto (tgt := 59) dX3_fair_104 (by decide) ?_
        refine v_iload dX3_fair_59 rfl rfl ?_
        refine v_iconst (v := nI 4) dX3_fair_61 (by decide) rfl ?_
        refine v_icmp_ge (tgt := 107) dX3_fair_62 (by decide) rfl (fun q => absurd q (by decide)) (fun _ => ?_)
        refine v_iconst (v := nI 2) dX3_fair_65 (by decide) rfl ?_
        refine v_iload dX3_fair_66 rfl rfl ?_
        refine v_imul dX3_fair_68 rfl ?_
        refine v_top (y := nI 4) (by decide) ?_
        refine v_iconst (v := nI 1) dX3_fair_69 (by decide) rfl ?_
        refine v_isub dX3_fair_70 rfl ?_
        refine v_top (y := nI 3) (by decide) ?_
        refine v_aload_n dX3_fair_71 rfl rfl ?_
        refine v_getf dX3_fair_72 fl_X3_110 (by first | assumption | exact set_get (by assumption) | exact (set_ne (by decide)).trans (by assumption) | exact set_get (set_get (by assumption))) (by rfl) rfl ?_
        refine v_imulN dX3_fair_75 rfl ?_
        refine v_iconst (v := nI 2) dX3_fair_76 (by decide) rfl ?_
        refine v_iload_n dX3_fair_77 rfl rfl ?_
        refine v_aload_n dX3_fair_78 rfl rfl ?_
        refine v_getf dX3_fair_79 fl_X3_110 (by first | assumption | exact set_get (by assumption) | exact (set_ne (by decide)).trans (by assumption) | exact set_get (set_get (by assumption))) (by rfl) rfl ?_
        refine v_imul dX3_fair_82 rfl ?_
        refine v_aload_n dX3_fair_83 rfl rfl ?_
        refine v_getf dX3_fair_84 fl_X3_107 (by first | assumption | exact set_get (by assumption) | exact (set_ne (by decide)).trans (by assumption) | exact set_get (set_get (by assumption))) (by rfl) rfl ?_
        refine v_isub dX3_fair_87 rfl ?_
        refine v_imul dX3_fair_88 rfl ?_
        refine v_icmp_gtA (tgt := 97) dX3_fair_89 (by decide) rfl (fun c89 => ?_) (fun c89 => ?_)
        · refine v_iload dX3_fair_97 rfl rfl ?_
          refine v_istore dX3_fair_99 (Nat.le_of_ble_eq_true rfl) rfl ?_
          refine v_iinc (v := nI 3) dX3_fair_101 rfl (by decide) (Nat.le_of_ble_eq_true rfl) rfl ?_
          refine v_goto (tgt := 59) dX3_fair_104 (by decide) ?_
          refine v_iload dX3_fair_59 rfl rfl ?_
          refine v_iconst (v := nI 4) dX3_fair_61 (by decide) rfl ?_
          refine v_icmp_ge (tgt := 107) dX3_fair_62 (by decide) rfl (fun q => absurd q (by decide)) (fun _ => ?_)
          refine v_iconst (v := nI 2) dX3_fair_65 (by decide) rfl ?_
          refine v_iload dX3_fair_66 rfl rfl ?_
          refine v_imul dX3_fair_68 rfl ?_
          refine v_top (y := nI 6) (by decide) ?_
          refine v_iconst (v := nI 1) dX3_fair_69 (by decide) rfl ?_
          refine v_isub dX3_fair_70 rfl ?_
          refine v_top (y := nI 5) (by decide) ?_
          refine v_aload_n dX3_fair_71 rfl rfl ?_
          refine v_getf dX3_fair_72 fl_X3_110 (by first | assumption | exact set_get (by assumption) | exact (set_ne (by decide)).trans (by assumption) | exact set_get (set_get (by assumption))) (by rfl) rfl ?_
          refine v_imulN dX3_fair_75 rfl ?_
          refine v_iconst (v := nI 2) dX3_fair_76 (by decide) rfl ?_
          refine v_iload_n dX3_fair_77 rfl rfl ?_
          refine v_aload_n dX3_fair_78 rfl rfl ?_
          refine v_getf dX3_fair_79 fl_X3_110 (by first | assumption | exact set_get (by assumption) | exact (set_ne (by decide)).trans (by assumption) | exact set_get (set_get (by assumption))) (by rfl) rfl ?_
          refine v_imul dX3_fair_82 rfl ?_
          refine v_aload_n dX3_fair_83 rfl rfl ?_
          refine v_getf dX3_fair_84 fl_X3_107 (by first | assumption | exact set_get (by assumption) | exact (set_ne (by decide)).trans (by assumption) | exact set_get (set_get (by assumption))) (by rfl) rfl ?_
          refine v_isub dX3_fair_87 rfl ?_
          refine v_imul dX3_fair_88 rfl ?_
          refine v_icmp_gtA (tgt := 97) dX3_fair_89 (by decide) rfl (fun c89 => ?_) (fun c89 => ?_)
          · refine v_iload dX3_fair_97 rfl rfl ?_
            refine v_istore dX3_fair_99 (Nat.le_of_ble_eq_true rfl) rfl ?_
            refine v_iinc (v := nI 4) dX3_fair_101 rfl (by decide) (Nat.le_of_ble_eq_true rfl) rfl ?_
            refine v_goto (tgt := 59) dX3_fair_104 (by decide) ?_
            refine v_iload dX3_fair_59 rfl rfl ?_
            refine v_iconst (v := nI 4) dX3_fair_61 (by decide) rfl ?_
            refine v_icmp_ge (tgt := 107) dX3_fair_62 (by decide) rfl (fun _ => ?_) (fun q => absurd (by decide) q)
            refine v_iload dX3_fair_107 rfl rfl ?_
            exact v_iret dX3_fair_109 rfl ⟨Nat.le_of_ble_eq_true rfl, Nat.le_of_ble_eq_true rfl⟩ (⟨by first | (rw [frI_f (fun q => q.1 ‹_›)]; done) | (rw [frI_f (fun q => by have := q.2; omega)]; done) | (rw [fa_ok hI hm hw c39 (Nat.pos_of_ne_zero c46)]; unfold fmI; (repeat' split) <;> first | rfl | contradiction), ⟨_, PM.off G hp hM m⟩, FrM.rf.set (by omega)⟩)
          · refine v_iload dX3_fair_92 rfl rfl ?_
            refine v_goto (tgt := 99) dX3_fair_94 (by decide) ?_
            refine v_istore dX3_fair_99 (Nat.le_of_ble_eq_true rfl) rfl ?_
            refine v_iinc (v := nI 4) dX3_fair_101 rfl (by decide) (Nat.le_of_ble_eq_true rfl) rfl ?_
            refine v_goto (tgt := 59) dX3_fair_104 (by decide) ?_
            refine v_iload dX3_fair_59 rfl rfl ?_
            refine v_iconst (v := nI 4) dX3_fair_61 (by decide) rfl ?_
            refine v_icmp_ge (tgt := 107) dX3_fair_62 (by decide) rfl (fun _ => ?_) (fun q => absurd (by decide) q)
            refine v_iload dX3_fair_107 rfl rfl ?_
            exact v_iret dX3_fair_109 rfl ⟨Nat.le_of_ble_eq_true rfl, Nat.le_of_ble_eq_true rfl⟩ (⟨by first | (rw [frI_f (fun q => q.1 ‹_›)]; done) | (rw [frI_f (fun q => by have := q.2; omega)]; done) | (rw [fa_ok hI hm hw c39 (Nat.pos_of_ne_zero c46)]; unfold fmI; (repeat' split) <;> first | rfl | contradiction), ⟨_, PM.off G hp hM m⟩, FrM.rf.set (by omega)⟩)
        · refine v_iload dX3_fair_92 rfl rfl ?_
          refine v_goto (tgt := 99) dX3_fair_94 (by decide) ?_
          refine v_istore dX3_fair_99 (Nat.le_of_ble_eq_true rfl) rfl ?_
          refine v_iinc (v := nI 3) dX3_fair_101 rfl (by decide) (Nat.le_of_ble_eq_true rfl) rfl ?_
          refine v_goto (tgt := 59) dX3_fair_104 (by decide) ?_
          refine v_iload dX3_fair_59 rfl rfl ?_
          refine v_iconst (v := nI 4) dX3_fair_61 (by decide) rfl ?_
          refine v_icmp_ge (tgt := 107) dX3_fair_62 (by decide) rfl (fun q => absurd q (by decide)) (fun _ => ?_)
          refine v_iconst (v := nI 2) dX3_fair_65 (by decide) rfl ?_
          refine v_iload dX3_fair_66 rfl rfl ?_
          refine v_imul dX3_fair_68 rfl ?_
          refine v_top (y := nI 6) (by decide) ?_
          refine v_iconst (v := nI 1) dX3_fair_69 (by decide) rfl ?_
          refine v_isub dX3_fair_70 rfl ?_
          refine v_top (y := nI 5) (by decide) ?_
          refine v_aload_n dX3_fair_71 rfl rfl ?_
          refine v_getf dX3_fair_72 fl_X3_110 (by first | assumption | exact set_get (by assumption) | exact (set_ne (by decide)).trans (by assumption) | exact set_get (set_get (by assumption))) (by rfl) rfl ?_
          refine v_imulN dX3_fair_75 rfl ?_
          refine v_iconst (v := nI 2) dX3_fair_76 (by decide) rfl ?_
          refine v_iload_n dX3_fair_77 rfl rfl ?_
          refine v_aload_n dX3_fair_78 rfl rfl ?_
          refine v_getf dX3_fair_79 fl_X3_110 (by first | assumption | exact set_get (by assumption) | exact (set_ne (by decide)).trans (by assumption) | exact set_get (set_get (by assumption))) (by rfl) rfl ?_
          refine v_imul dX3_fair_82 rfl ?_
          refine v_aload_n dX3_fair_83 rfl rfl ?_
          refine v_getf dX3_fair_84 fl_X3_107 (by first | assumption | exact set_get (by assumption) | exact (set_ne (by decide)).trans (by assumption) | exact set_get (set_get (by assumption))) (by rfl) rfl ?_
          refine v_isub dX3_fair_87 rfl ?_
          refine v_imul dX3_fair_88 rfl ?_
          refine v_icmp_gtA (tgt := 97) dX3_fair_89 (by decide) rfl (fun c89 => ?_) (fun c89 => ?_)
          · refine v_iload dX3_fair_97 rfl rfl ?_
            refine v_istore dX3_fair_99 (Nat.le_of_ble_eq_true rfl) rfl ?_
            refine v_iinc (v := nI 4) dX3_fair_101 rfl (by decide) (Nat.le_of_ble_eq_true rfl) rfl ?_
            refine v_goto (tgt := 59) dX3_fair_104 (by decide) ?_
            refine v_iload dX3_fair_59 rfl rfl ?_
            refine v_iconst (v := nI 4) dX3_fair_61 (by decide) rfl ?_
            refine v_icmp_ge (tgt := 107) dX3_fair_62 (by decide) rfl (fun _ => ?_) (fun q => absurd (by decide) q)
            refine v_iload dX3_fair_107 rfl rfl ?_
            exact v_iret dX3_fair_109 rfl ⟨Nat.le_of_ble_eq_true rfl, Nat.le_of_ble_eq_true rfl⟩ (⟨by first | (rw [frI_f (fun q => q.1 ‹_›)]; done) | (rw [frI_f (fun q => by have := q.2; omega)]; done) | (rw [fa_ok hI hm hw c39 (Nat.pos_of_ne_zero c46)]; unfold fmI; (repeat' split) <;> first | rfl | contradiction), ⟨_, PM.off G hp hM m⟩, FrM.rf.set (by omega)⟩)
          · refine v_iload dX3_fair_92 rfl rfl ?_
            refine v_goto (tgt := 99) dX3_fair_94 (by decide) ?_
            refine v_istore dX3_fair_99 (Nat.le_of_ble_eq_true rfl) rfl ?_
            refine v_iinc (v := nI 4) dX3_fair_101 rfl (by decide) (Nat.le_of_ble_eq_true rfl) rfl ?_
            refine v_goto (tgt := 59) dX3_fair_104 (by decide) ?_
            refine v_iload dX3_fair_59 rfl rfl ?_
            refine v_iconst (v := nI 4) dX3_fair_61 (by decide) rfl ?_
            refine v_icmp_ge (tgt := 107) dX3_fair_62 (by decide) rfl (fun _ => ?_) (fun q => absurd (by decide) q)
            refine v_iload dX3_fair_107 rfl rfl ?_
            exact v_iret dX3_fair_109 rfl ⟨Nat.le_of_ble_eq_true rfl, Nat.le_of_ble_eq_true rfl⟩ (⟨by first | (rw [frI_f (fun q => q.1 ‹_›)]; done) | (rw [frI_f (fun q => by have := q.2; omega)]; done) | (rw [fa_ok hI hm hw c39 (Nat.pos_of_ne_zero c46)]; unfold fmI; (repeat' split) <;> first | rfl | contradiction), ⟨_, PM.off G hp hM m⟩, FrM.rf.set (by omega)⟩)
      · refine v_iload dX3_fair_92 rfl rfl ?_
        refine v_goto (tgt := 99) dX3_fair_94 (by decide) ?_
        refine v_istore dX3_fair_99 (Nat.le_of_ble_eq_true rfl) rfl ?_
        refine v_iinc (v := nI 2) dX3_fair_101 rfl (by decide) (Nat.le_of_ble_eq_true rfl) rfl ?_
        refine v_goto (tgt := 59) dX3_fair_104 (by decide) ?_
        refine v_iload dX3_fair_59 rfl rfl ?_
        refine v_iconst (v := nI 4) dX3_fair_61 (by decide) rfl ?_
        refine v_icmp_ge (tgt := 107) dX3_fair_62 (by decide) rfl (fun q => absurd q (by decide)) (fun _ => ?_)
        refine v_iconst (v := nI 2) dX3_fair_65 (by decide) rfl ?_
        refine v_iload dX3_fair_66 rfl rfl ?_
        refine v_imul dX3_fair_68 rfl ?_
        refine v_top (y := nI 4) (by decide) ?_
        refine v_iconst (v := nI 1) dX3_fair_69 (by decide) rfl ?_
        refine v_isub dX3_fair_70 rfl ?_
        refine v_top (y := nI 3) (by decide) ?_
        refine v_aload_n dX3_fair_71 rfl rfl ?_
        refine v_getf dX3_fair_72 fl_X3_110 (by first | assumption | exact set_get (by assumption) | exact (set_ne (by decide)).trans (by assumption) | exact set_get (set_get (by assumption))) (by rfl) rfl ?_
        refine v_imulN dX3_fair_75 rfl ?_
        refine v_iconst (v := nI 2) dX3_fair_76 (by decide) rfl ?_
        refine v_iload_n dX3_fair_77 rfl rfl ?_
        refine v_aload_n dX3_fair_78 rfl rfl ?_
        refine v_getf dX3_fair_79 fl_X3_110 (by first | assumption | exact set_get (by assumption) | exact (set_ne (by decide)).trans (by assumption) | exact set_get (set_get (by assumption))) (by rfl) rfl ?_
        refine v_imul dX3_fair_82 rfl ?_
        refine v_aload_n dX3_fair_83 rfl rfl ?_
        refine v_getf dX3_fair_84 fl_X3_107 (by first | assumption | exact set_get (by assumption) | exact (set_ne (by decide)).trans (by assumption) | exact set_get (set_get (by assumption))) (by rfl) rfl ?_
        refine v_isub dX3_fair_87 rfl ?_
        refine v_imul dX3_fair_88 rfl ?_
        refine v_icmp_gtA (tgt := 97) dX3_fair_89 (by decide) rfl (fun c89 => ?_) (fun c89 => ?_)
        · refine v_iload dX3_fair_97 rfl rfl ?_
          refine v_istore dX3_fair_99 (Nat.le_of_ble_eq_true rfl) rfl ?_
          refine v_iinc (v := nI 3) dX3_fair_101 rfl (by decide) (Nat.le_of_ble_eq_true rfl) rfl ?_
          refine v_goto (tgt := 59) dX3_fair_104 (by decide) ?_
          refine v_iload dX3_fair_59 rfl rfl ?_
          refine v_iconst (v := nI 4) dX3_fair_61 (by decide) rfl ?_
          refine v_icmp_ge (tgt := 107) dX3_fair_62 (by decide) rfl (fun q => absurd q (by decide)) (fun _ => ?_)
          refine v_iconst (v := nI 2) dX3_fair_65 (by decide) rfl ?_
          refine v_iload dX3_fair_66 rfl rfl ?_
          refine v_imul dX3_fair_68 rfl ?_
          refine v_top (y := nI 6) (by decide) ?_
          refine v_iconst (v := nI 1) dX3_fair_69 (by decide) rfl ?_
          refine v_isub dX3_fair_70 rfl ?_
          refine v_top (y := nI 5) (by decide) ?_
          refine v_aload_n dX3_fair_71 rfl rfl ?_
          refine v_getf dX3_fair_72 fl_X3_110 (by first | assumption | exact set_get (by assumption) | exact (set_ne (by decide)).trans (by assumption) | exact set_get (set_get (by assumption))) (by rfl) rfl ?_
          refine v_imulN dX3_fair_75 rfl ?_
          refine v_iconst (v := nI 2) dX3_fair_76 (by decide) rfl ?_
          refine v_iload_n dX3_fair_77 rfl rfl ?_
          refine v_aload_n dX3_fair_78 rfl rfl ?_
          refine v_getf dX3_fair_79 fl_X3_110 (by first | assumption | exact set_get (by assumption) | exact (set_ne (by decide)).trans (by assumption) | exact set_get (set_get (by assumption))) (by rfl) rfl ?_
          refine v_imul dX3_fair_82 rfl ?_
          refine v_aload_n dX3_fair_83 rfl rfl ?_
          refine v_getf dX3_fair_84 fl_X3_107 (by first | assumption | exact set_get (by assumption) | exact (set_ne (by decide)).trans (by assumption) | exact set_get (set_get (by assumption))) (by rfl) rfl ?_
          refine v_isub dX3_fair_87 rfl ?_
          refine v_imul dX3_fair_88 rfl ?_
          refine v_icmp_gtA (tgt := 97) dX3_fair_89 (by decide) rfl (fun c89 => ?_) (fun c89 => ?_)
          · refine v_iload dX3_fair_97 rfl rfl ?_
            refine v_istore dX3_fair_99 (Nat.le_of_ble_eq_true rfl) rfl ?_
            refine v_iinc (v := nI 4) dX3_fair_101 rfl (by decide) (Nat.le_of_ble_eq_true rfl) rfl ?_
            refine v_goto (tgt := 59) dX3_fair_104 (by decide) ?_
            refine v_iload dX3_fair_59 rfl rfl ?_
            refine v_iconst (v := nI 4) dX3_fair_61 (by decide) rfl ?_
            refine v_icmp_ge (tgt := 107) dX3_fair_62 (by decide) rfl (fun _ => ?_) (fun q => absurd (by decide) q)
            refine v_iload dX3_fair_107 rfl rfl ?_
            exact v_iret dX3_fair_109 rfl ⟨Nat.le_of_ble_eq_true rfl, Nat.le_of_ble_eq_true rfl⟩ (⟨by first | (rw [frI_f (fun q => q.1 ‹_›)]; done) | (rw [frI_f (fun q => by have := q.2; omega)]; done) | (rw [fa_ok hI hm hw c39 (Nat.pos_of_ne_zero c46)]; unfold fmI; (repeat' split) <;> first | rfl | contradiction), ⟨_, PM.off G hp hM m⟩, FrM.rf.set (by omega)⟩)
          · refine v_iload dX3_fair_92 rfl rfl ?_
            refine v_goto (tgt := 99) dX3_fair_94 (by decide) ?_
            refine v_istore dX3_fair_99 (Nat.le_of_ble_eq_true rfl) rfl ?_
            refine v_iinc (v := nI 4) dX3_fair_101 rfl (by decide) (Nat.le_of_ble_eq_true rfl) rfl ?_
            refine v_goto (tgt := 59) dX3_fair_104 (by decide) ?_
            refine v_iload dX3_fair_59 rfl rfl ?_
            refine v_iconst (v := nI 4) dX3_fair_61 (by decide) rfl ?_
            refine v_icmp_ge (tgt := 107) dX3_fair_62 (by decide) rfl (fun _ => ?_) (fun q => absurd (by decide) q)
            refine v_iload dX3_fair_107 rfl rfl ?_
            exact v_iret dX3_fair_109 rfl ⟨Nat.le_of_ble_eq_true rfl, Nat.le_of_ble_eq_true rfl⟩ (⟨by first | (rw [frI_f (fun q => q.1 ‹_›)]; done) | (rw [frI_f (fun q => by have := q.2; omega)]; done) | (rw [fa_ok hI hm hw c39 (Nat.pos_of_ne_zero c46)]; unfold fmI; (repeat' split) <;> first | rfl | contradiction), ⟨_, PM.off G hp hM m⟩, FrM.rf.set (by omega)⟩)
        · refine v_iload dX3_fair_92 rfl rfl ?_
          refine v_goto (tgt := 99) dX3_fair_94 (by decide) ?_
          refine v_istore dX3_fair_99 (Nat.le_of_ble_eq_true rfl) rfl ?_
          refine v_iinc (v := nI 3) dX3_fair_101 rfl (by decide) (Nat.le_of_ble_eq_true rfl) rfl ?_
          refine v_goto (tgt := 59) dX3_fair_104 (by decide) ?_
          refine v_iload dX3_fair_59 rfl rfl ?_
          refine v_iconst (v := nI 4) dX3_fair_61 (by decide) rfl ?_
          refine v_icmp_ge (tgt := 107) dX3_fair_62 (by decide) rfl (fun q => absurd q (by decide)) (fun _ => ?_)
          refine v_iconst (v := nI 2) dX3_fair_65 (by decide) rfl ?_
          refine v_iload dX3_fair_66 rfl rfl ?_
          refine v_imul dX3_fair_68 rfl ?_
          refine v_top (y := nI 6) (by decide) ?_
          refine v_iconst (v := nI 1) dX3_fair_69 (by decide) rfl ?_
          refine v_isub dX3_fair_70 rfl ?_
          refine v_top (y := nI 5) (by decide) ?_
          refine v_aload_n dX3_fair_71 rfl rfl ?_
          refine v_getf dX3_fair_72 fl_X3_110 (by first | assumption | exact set_get (by assumption) | exact (set_ne (by decide)).trans (by assumption) | exact set_get (set_get (by assumption))) (by rfl) rfl ?_
          refine v_imulN dX3_fair_75 rfl ?_
          refine v_iconst (v := nI 2) dX3_fair_76 (by decide) rfl ?_
          refine v_iload_n dX3_fair_77 rfl rfl ?_
          refine v_aload_n dX3_fair_78 rfl rfl ?_
          refine v_getf dX3_fair_79 fl_X3_110 (by first | assumption | exact set_get (by assumption) | exact (set_ne (by decide)).trans (by assumption) | exact set_get (set_get (by assumption))) (by rfl) rfl ?_
          refine v_imul dX3_fair_82 rfl ?_
          refine v_aload_n dX3_fair_83 rfl rfl ?_
          refine v_getf dX3_fair_84 fl_X3_107 (by first | assumption | exact set_get (by assumption) | exact (set_ne (by decide)).trans (by assumption) | exact set_get (set_get (by assumption))) (by rfl) rfl ?_
          refine v_isub dX3_fair_87 rfl ?_
          refine v_imul dX3_fair_88 rfl ?_
          refine v_icmp_gtA (tgt := 97) dX3_fair_89 (by decide) rfl (fun c89 => ?_) (fun c89 => ?_)
          · refine v_iload dX3_fair_97 rfl rfl ?_
            refine v_istore dX3_fair_99 (Nat.le_of_ble_eq_true rfl) rfl ?_
            refine v_iinc (v := nI 4) dX3_fair_101 rfl (by decide) (Nat.le_of_ble_eq_true rfl) rfl ?_
            refine v_goto (tgt := 59) dX3_fair_104 (by decide) ?_
            refine v_iload dX3_fair_59 rfl rfl ?_
            refine v_iconst (v := nI 4) dX3_fair_61 (by decide) rfl ?_
            refine v_icmp_ge (tgt := 107) dX3_fair_62 (by decide) rfl (fun _ => ?_) (fun q => absurd (by decide) q)
            refine v_iload dX3_fair_107 rfl rfl ?_
            exact v_iret dX3_fair_109 rfl ⟨Nat.le_of_ble_eq_true rfl, Nat.le_of_ble_eq_true rfl⟩ (⟨by first | (rw [frI_f (fun q => q.1 ‹_›)]; done) | (rw [frI_f (fun q => by have := q.2; omega)]; done) | (rw [fa_ok hI hm hw c39 (Nat.pos_of_ne_zero c46)]; unfold fmI; (repeat' split) <;> first | rfl | contradiction), ⟨_, PM.off G hp hM m⟩, FrM.rf.set (by omega)⟩)
          · refine v_iload dX3_fair_92 rfl rfl ?_
            refine v_goto (tgt := 99) dX3_fair_94 (by decide) ?_
            refine v_istore dX3_fair_99 (Nat.le_of_ble_eq_true rfl) rfl ?_
            refine v_iinc (v := nI 4) dX3_fair_101 rfl (by decide) (Nat.le_of_ble_eq_true rfl) rfl ?_
            refine v_goto (tgt := 59) dX3_fair_104 (by decide) ?_
            refine v_iload dX3_fair_59 rfl rfl ?_
            refine v_iconst (v := nI 4) dX3_fair_61 (by decide) rfl ?_
            refine v_icmp_ge (tgt := 107) dX3_fair_62 (by decide) rfl (fun _ => ?_) (fun q => absurd (by decide) q)
            refine v_iload dX3_fair_107 rfl rfl ?_
            exact v_iret dX3_fair_109 rfl ⟨Nat.le_of_ble_eq_true rfl, Nat.le_of_ble_eq_true rfl⟩ (⟨by first | (rw [frI_f (fun q => q.1 ‹_›)]; done) | (rw [frI_f (fun q => by have := q.2; omega)]; done) | (rw [fa_ok hI hm hw c39 (Nat.pos_of_ne_zero c46)]; unfold fmI; (repeat' split) <;> first | rfl | contradiction), ⟨_, PM.off G hp hM m⟩, FrM.rf.set (by omega)⟩)
    · refine v_sipush (v := (-200)) dX3_fair_49 (by decide) rfl ?_
      exact v_iret dX3_fair_52 rfl ⟨Nat.le_of_ble_eq_true rfl, Nat.le_of_ble_eq_true rfl⟩ (⟨by first | (rw [frI_f (fun q => q.1 ‹_›)]; done) | (rw [frI_f (fun q => by have := q.2; omega)]; done) | (rw [fa_ok hI hm hw c39 (Nat.pos_of_ne_zero c46)]; unfold fmI; (repeat' split) <;> first | rfl | contradiction), ⟨_, PM.off G hp hM m⟩, FrM.rf.set (by omega)⟩)
theorem mm_fair_n (hM : PM G s y hp) {z x : Int32} (h : ¬ (InR z 3 ∧ InR x s.n)) : Ct G mX3_fair 2 0 0 [.ref (G.2.2.2 + 31), .int z, .int x] hp (Qf (some (.int (-100))) hp) := by
  have m0 := hM.1
  refine Ct.start 3 (by decide) rfl (Nat.le_of_ble_eq_true rfl) ?_
  refine v_iload_n dX3_fair_0 rfl rfl ?_
  by_cases q1 : InR z 3
  · refine v_csf dX3_fair_1 cw_X3_87 ts_X3_isMarker ((c_isMarker G hp z).yes ‹_›) (by rfl) (by rfl) (Nat.le_of_ble_eq_true rfl) (Nat.le_of_ble_eq_true rfl) (Nat.le_of_ble_eq_true rfl) (Nat.le_of_ble_eq_true rfl) (Nat.le_of_ble_eq_true rfl) rfl ?_
    refine v_if_eq (tgt := 15) dX3_fair_4 (by decide) rfl (fun q => absurd q (by decide)) (fun _ => ?_)
    refine v_aload_n dX3_fair_7 rfl rfl ?_
    refine v_iload_n dX3_fair_8 rfl rfl ?_
    by_cases q9 : InR x s.n
    · refine v_cvf dX3_fair_9 cw_X3_81 ⟨tn_X3_isWork, tl_X3_isWork⟩ rfl (by first | assumption | exact set_get (by assumption) | exact (set_ne (by decide)).trans (by assumption) | exact set_get (set_get (by assumption))) ((m_isWork G hp hM x).yes ‹_›) (by rfl) (by rfl) (Nat.le_of_ble_eq_true rfl) (Nat.le_of_ble_eq_true rfl) (Nat.le_of_ble_eq_true rfl) (Nat.le_of_ble_eq_true rfl) (Nat.le_of_ble_eq_true rfl) rfl ?_
      refine v_if_ne (tgt := 18) dX3_fair_12 (by decide) rfl (fun _ => ?_) (fun q => absurd q (by decide))
      exact absurd ⟨q1, q9⟩ h
    · refine v_cvf dX3_fair_9 cw_X3_81 ⟨tn_X3_isWork, tl_X3_isWork⟩ rfl (by first | assumption | exact set_get (by assumption) | exact (set_ne (by decide)).trans (by assumption) | exact set_get (set_get (by assumption))) ((m_isWork G hp hM x).no ‹_›) (by rfl) (by rfl) (Nat.le_of_ble_eq_true rfl) (Nat.le_of_ble_eq_true rfl) (Nat.le_of_ble_eq_true rfl) (Nat.le_of_ble_eq_true rfl) (Nat.le_of_ble_eq_true rfl) rfl ?_
      refine v_if_ne (tgt := 18) dX3_fair_12 (by decide) rfl (fun q => absurd (by decide) q) (fun _ => ?_)
      refine v_bipush (v := (-100)) dX3_fair_15 (by decide) rfl ?_
      exact v_iret dX3_fair_17 rfl ⟨Nat.le_of_ble_eq_true rfl, Nat.le_of_ble_eq_true rfl⟩ (⟨rfl, rfl⟩)
  · refine v_csf dX3_fair_1 cw_X3_87 ts_X3_isMarker ((c_isMarker G hp z).no ‹_›) (by rfl) (by rfl) (Nat.le_of_ble_eq_true rfl) (Nat.le_of_ble_eq_true rfl) (Nat.le_of_ble_eq_true rfl) (Nat.le_of_ble_eq_true rfl) (Nat.le_of_ble_eq_true rfl) rfl ?_
    refine v_if_eq (tgt := 15) dX3_fair_4 (by decide) rfl (fun _ => ?_) (fun q => absurd (by decide) q)
    refine v_bipush (v := (-100)) dX3_fair_15 (by decide) rfl ?_
    exact v_iret dX3_fair_17 rfl ⟨Nat.le_of_ble_eq_true rfl, Nat.le_of_ble_eq_true rfl⟩ (⟨rfl, rfl⟩)
theorem mm_moves_y (hM : PM G s y hp) (hI : Inv s) {u : Nat} (hu : u < 2) : Ct G mX3_moves 6 0 0 [.ref (G.2.2.2 + 31), .int (nI u)] hp (Qf (some (.int (mvI s u))) hp) := by
  have m0 := hM.1
  have hn := hI.2.2.2
  have inner : ∀ w, w < s.n → (∀ l5 : Option Value, Vm G mX3_moves 6 0 0 (Qf (some (.int (mvI s u))) hp) 19 [some (.ref (G.2.2.2 + 31)), some (.int (nI u)), some (.int (nI (cnt (fun w => ¬ ptsI s 0 w 4 = ptsI s 1 w 4) (w + 1)))), some (.int (nI (trnN (fun w => ptsI s 0 w 4) (fun w => ptsI s 1 w 4) s.n (w + 1)))), some (.int (nI (w + 1))), l5] [] hp 0 0) → ∀ k, k ≤ s.n → Vm G mX3_moves 6 0 0 (Qf (some (.int (mvI s u))) hp) 56 [some (.ref (G.2.2.2 + 31)), some (.int (nI u)), some (.int (nI (cnt (fun w => ¬ ptsI s 0 w 4 = ptsI s 1 w 4) (w + 1)))), some (.int (nI (trnN (fun w => ptsI s 0 w 4) (fun w => ptsI s 1 w 4) s.n w + cnt (fun j => ¬ ptsI s 0 w 4 ≤ ptsI s 0 j 4 ∧ ¬ ptsI s 1 j 4 ≤ ptsI s 1 w 4) k))), some (.int (nI w)), some (.int (nI k))] [] hp 0 0 := by
    intro w hw hout
    refine loop_up ?_ (fun k hk ih => ?_)
    · refine v_iload dX3_moves_56 rfl rfl ?_
      refine v_aload_n dX3_moves_58 rfl rfl ?_
      refine v_getf dX3_moves_59 fl_X3_77 (by first | assumption | exact set_get (by assumption) | exact (set_ne (by decide)).trans (by assumption) | exact set_get (set_get (by assumption))) (by rfl) rfl ?_
      refine v_icmp_geN (tgt := 113) dX3_moves_62 (by decide) rfl (by omega) (by omega) (fun c62 => ?_) (fun c62 => ?_)
      · refine v_iinc1 dX3_moves_113 rfl (Nat.le_of_ble_eq_true rfl) rfl ?_
        refine v_goto (tgt := 19) dX3_moves_116 (by decide) ?_
        exact hout _
      · exact absurd c62 (by omega)
    · refine v_iload dX3_moves_56 rfl rfl ?_
      refine v_aload_n dX3_moves_58 rfl rfl ?_
      refine v_getf dX3_moves_59 fl_X3_77 (by first | assumption | exact set_get (by assumption) | exact (set_ne (by decide)).trans (by assumption) | exact set_get (set_get (by assumption))) (by rfl) rfl ?_
      refine v_icmp_geN (tgt := 113) dX3_moves_62 (by decide) rfl (by omega) (by omega) (fun c62 => ?_) (fun c62 => ?_)
      · exact absurd c62 (by omega)
      · refine v_iload_n dX3_moves_65 rfl rfl ?_
        refine v_aload_n dX3_moves_66 rfl rfl ?_
        refine v_iconst (v := nI 0) dX3_moves_67 (by decide) rfl ?_
        refine v_iload dX3_moves_68 rfl rfl ?_
        refine v_cvf dX3_moves_70 cw_X3_84 ⟨tn_X3_pointsOf, tl_X3_pointsOf⟩ rfl (by first | assumption | exact set_get (by assumption) | exact (set_ne (by decide)).trans (by assumption) | exact set_get (set_get (by assumption))) (m_pointsOf G hp hM hI (sh := 0) (by decide) hw) (by rfl) (by rfl) (Nat.le_of_ble_eq_true rfl) (Nat.le_of_ble_eq_true rfl) (Nat.le_of_ble_eq_true rfl) (Nat.le_of_ble_eq_true rfl) (Nat.le_of_ble_eq_true rfl) rfl ?_
        refine v_aload_n dX3_moves_73 rfl rfl ?_
        refine v_iconst (v := nI 0) dX3_moves_74 (by decide) rfl ?_
        refine v_iload dX3_moves_75 rfl rfl ?_
        refine v_cvf dX3_moves_77 cw_X3_84 ⟨tn_X3_pointsOf, tl_X3_pointsOf⟩ rfl (by first | assumption | exact set_get (by assumption) | exact (set_ne (by decide)).trans (by assumption) | exact set_get (set_get (by assumption))) (m_pointsOf G hp hM hI (sh := 0) (by decide) hk) (by rfl) (by rfl) (Nat.le_of_ble_eq_true rfl) (Nat.le_of_ble_eq_true rfl) (Nat.le_of_ble_eq_true rfl) (Nat.le_of_ble_eq_true rfl) (Nat.le_of_ble_eq_true rfl) rfl ?_
        refine v_icmp_le (tgt := 104) dX3_moves_80 (by decide) rfl (fun c80 => ?_) (fun c80 => ?_)
        · refine v_iconst (v := nI 0) dX3_moves_104 (by decide) rfl ?_
          refine v_iaddN dX3_moves_105 rfl ?_
          refine v_istore_n dX3_moves_106 (Nat.le_of_ble_eq_true rfl) rfl ?_
          refine v_iinc1 dX3_moves_107 rfl (Nat.le_of_ble_eq_true rfl) rfl ?_
          refine v_goto (tgt := 56) dX3_moves_110 (by decide) ?_
          first | (rw [cnt_t (p := fun j => ¬ ptsI s 0 w 4 ≤ ptsI s 0 j 4 ∧ ¬ ptsI s 1 j 4 ≤ ptsI s 1 w 4) (n := k) ⟨‹_›, ‹_›⟩] at ih; exact ih) | (rw [cnt_f (p := fun j => ¬ ptsI s 0 w 4 ≤ ptsI s 0 j 4 ∧ ¬ ptsI s 1 j 4 ≤ ptsI s 1 w 4) (n := k) (fun h => absurd ‹_› h.1)] at ih; exact ih) | (rw [cnt_f (p := fun j => ¬ ptsI s 0 w 4 ≤ ptsI s 0 j 4 ∧ ¬ ptsI s 1 j 4 ≤ ptsI s 1 w 4) (n := k) (fun h => absurd ‹_› h.2)] at ih; exact ih)
        · refine v_aload_n dX3_moves_83 rfl rfl ?_
          refine v_iconst (v := nI 1) dX3_moves_84 (by decide) rfl ?_
          refine v_iload dX3_moves_85 rfl rfl ?_
          refine v_cvf dX3_moves_87 cw_X3_84 ⟨tn_X3_pointsOf, tl_X3_pointsOf⟩ rfl (by first | assumption | exact set_get (by assumption) | exact (set_ne (by decide)).trans (by assumption) | exact set_get (set_get (by assumption))) (m_pointsOf G hp hM hI (sh := 1) (by decide) hw) (by rfl) (by rfl) (Nat.le_of_ble_eq_true rfl) (Nat.le_of_ble_eq_true rfl) (Nat.le_of_ble_eq_true rfl) (Nat.le_of_ble_eq_true rfl) (Nat.le_of_ble_eq_true rfl) rfl ?_
          refine v_aload_n dX3_moves_90 rfl rfl ?_
          refine v_iconst (v := nI 1) dX3_moves_91 (by decide) rfl ?_
          refine v_iload dX3_moves_92 rfl rfl ?_
          refine v_cvf dX3_moves_94 cw_X3_84 ⟨tn_X3_pointsOf, tl_X3_pointsOf⟩ rfl (by first | assumption | exact set_get (by assumption) | exact (set_ne (by decide)).trans (by assumption) | exact set_get (set_get (by assumption))) (m_pointsOf G hp hM hI (sh := 1) (by decide) hk) (by rfl) (by rfl) (Nat.le_of_ble_eq_true rfl) (Nat.le_of_ble_eq_true rfl) (Nat.le_of_ble_eq_true rfl) (Nat.le_of_ble_eq_true rfl) (Nat.le_of_ble_eq_true rfl) rfl ?_
          refine v_icmp_ge (tgt := 104) dX3_moves_97 (by decide) rfl (fun c97 => ?_) (fun c97 => ?_)
          · refine v_iconst (v := nI 0) dX3_moves_104 (by decide) rfl ?_
            refine v_iaddN dX3_moves_105 rfl ?_
            refine v_istore_n dX3_moves_106 (Nat.le_of_ble_eq_true rfl) rfl ?_
            refine v_iinc1 dX3_moves_107 rfl (Nat.le_of_ble_eq_true rfl) rfl ?_
            refine v_goto (tgt := 56) dX3_moves_110 (by decide) ?_
            first | (rw [cnt_t (p := fun j => ¬ ptsI s 0 w 4 ≤ ptsI s 0 j 4 ∧ ¬ ptsI s 1 j 4 ≤ ptsI s 1 w 4) (n := k) ⟨‹_›, ‹_›⟩] at ih; exact ih) | (rw [cnt_f (p := fun j => ¬ ptsI s 0 w 4 ≤ ptsI s 0 j 4 ∧ ¬ ptsI s 1 j 4 ≤ ptsI s 1 w 4) (n := k) (fun h => absurd ‹_› h.1)] at ih; exact ih) | (rw [cnt_f (p := fun j => ¬ ptsI s 0 w 4 ≤ ptsI s 0 j 4 ∧ ¬ ptsI s 1 j 4 ≤ ptsI s 1 w 4) (n := k) (fun h => absurd ‹_› h.2)] at ih; exact ih)
          · refine v_iconst (v := nI 1) dX3_moves_100 (by decide) rfl ?_
            refine v_goto (tgt := 105) dX3_moves_101 (by decide) ?_
            refine v_iaddN dX3_moves_105 rfl ?_
            refine v_istore_n dX3_moves_106 (Nat.le_of_ble_eq_true rfl) rfl ?_
            refine v_iinc1 dX3_moves_107 rfl (Nat.le_of_ble_eq_true rfl) rfl ?_
            refine v_goto (tgt := 56) dX3_moves_110 (by decide) ?_
            first | (rw [cnt_t (p := fun j => ¬ ptsI s 0 w 4 ≤ ptsI s 0 j 4 ∧ ¬ ptsI s 1 j 4 ≤ ptsI s 1 w 4) (n := k) ⟨‹_›, ‹_›⟩] at ih; exact ih) | (rw [cnt_f (p := fun j => ¬ ptsI s 0 w 4 ≤ ptsI s 0 j 4 ∧ ¬ ptsI s 1 j 4 ≤ ptsI s 1 w 4) (n := k) (fun h => absurd ‹_› h.1)] at ih; exact ih) | (rw [cnt_f (p := fun j => ¬ ptsI s 0 w 4 ≤ ptsI s 0 j 4 ∧ ¬ ptsI s 1 j 4 ≤ ptsI s 1 w 4) (n := k) (fun h => absurd ‹_› h.2)] at ih; exact ih)
  have key : ∀ k, k ≤ s.n → ∀ l5 : Option Value, Vm G mX3_moves 6 0 0 (Qf (some (.int (mvI s u))) hp) 19 [some (.ref (G.2.2.2 + 31)), some (.int (nI u)), some (.int (nI (cnt (fun w => ¬ ptsI s 0 w 4 = ptsI s 1 w 4) k))), some (.int (nI (trnN (fun w => ptsI s 0 w 4) (fun w => ptsI s 1 w 4) s.n k))), some (.int (nI k)), l5] [] hp 0 0 := by
    refine loop_up ?_ (fun k hk ih => ?_)
    · intro l5
      refine v_iload dX3_moves_19 rfl rfl ?_
      refine v_aload_n dX3_moves_21 rfl rfl ?_
      refine v_getf dX3_moves_22 fl_X3_77 (by first | assumption | exact set_get (by assumption) | exact (set_ne (by decide)).trans (by assumption) | exact set_get (set_get (by assumption))) (by rfl) rfl ?_
      refine v_icmp_geN (tgt := 119) dX3_moves_25 (by decide) rfl (by omega) (by omega) (fun c25 => ?_) (fun c25 => ?_)
      · refine v_iload_n dX3_moves_119 rfl rfl ?_
        refine v_if_neN (tgt := 127) dX3_moves_120 (by decide) rfl (by omega) (fun c120 => ?_) (fun c120 => ?_)
        · refine v_iload_n dX3_moves_127 rfl rfl ?_
          exact v_iret dX3_moves_128 rfl ⟨Nat.le_of_ble_eq_true rfl, Nat.le_of_ble_eq_true rfl⟩ (⟨by first | (rw [mvI, if_pos ‹_›]; done) | (rw [mvI, if_neg ‹_›]; done), rfl⟩)
        · refine v_iload_n dX3_moves_123 rfl rfl ?_
          refine v_goto (tgt := 128) dX3_moves_124 (by decide) ?_
          exact v_iret dX3_moves_128 rfl ⟨Nat.le_of_ble_eq_true rfl, Nat.le_of_ble_eq_true rfl⟩ (⟨by first | (rw [mvI, if_pos ‹_›]; done) | (rw [mvI, if_neg ‹_›]; done), rfl⟩)
      · exact absurd c25 (by omega)
    · intro l5
      have hin := inner k hk ih 0 (Nat.zero_le _)
      refine v_iload dX3_moves_19 rfl rfl ?_
      refine v_aload_n dX3_moves_21 rfl rfl ?_
      refine v_getf dX3_moves_22 fl_X3_77 (by first | assumption | exact set_get (by assumption) | exact (set_ne (by decide)).trans (by assumption) | exact set_get (set_get (by assumption))) (by rfl) rfl ?_
      refine v_icmp_geN (tgt := 119) dX3_moves_25 (by decide) rfl (by omega) (by omega) (fun c25 => ?_) (fun c25 => ?_)
      · exact absurd c25 (by omega)
      · refine v_iload_n dX3_moves_28 rfl rfl ?_
        refine v_aload_n dX3_moves_29 rfl rfl ?_
        refine v_iconst (v := nI 0) dX3_moves_30 (by decide) rfl ?_
        refine v_iload dX3_moves_31 rfl rfl ?_
        refine v_cvf dX3_moves_33 cw_X3_84 ⟨tn_X3_pointsOf, tl_X3_pointsOf⟩ rfl (by first | assumption | exact set_get (by assumption) | exact (set_ne (by decide)).trans (by assumption) | exact set_get (set_get (by assumption))) (m_pointsOf G hp hM hI (sh := 0) (by decide) hk) (by rfl) (by rfl) (Nat.le_of_ble_eq_true rfl) (Nat.le_of_ble_eq_true rfl) (Nat.le_of_ble_eq_true rfl) (Nat.le_of_ble_eq_true rfl) (Nat.le_of_ble_eq_true rfl) rfl ?_
        refine v_aload_n dX3_moves_36 rfl rfl ?_
        refine v_iconst (v := nI 1) dX3_moves_37 (by decide) rfl ?_
        refine v_iload dX3_moves_38 rfl rfl ?_
        refine v_cvf dX3_moves_40 cw_X3_84 ⟨tn_X3_pointsOf, tl_X3_pointsOf⟩ rfl (by first | assumption | exact set_get (by assumption) | exact (set_ne (by decide)).trans (by assumption) | exact set_get (set_get (by assumption))) (m_pointsOf G hp hM hI (sh := 1) (by decide) hk) (by rfl) (by rfl) (Nat.le_of_ble_eq_true rfl) (Nat.le_of_ble_eq_true rfl) (Nat.le_of_ble_eq_true rfl) (Nat.le_of_ble_eq_true rfl) (Nat.le_of_ble_eq_true rfl) rfl ?_
        refine v_icmp_eq (tgt := 50) dX3_moves_43 (by decide) rfl (fun c43 => ?_) (fun c43 => ?_)
        · refine v_iconst (v := nI 0) dX3_moves_50 (by decide) rfl ?_
          refine v_iaddN dX3_moves_51 rfl ?_
          refine v_istore_n dX3_moves_52 (Nat.le_of_ble_eq_true rfl) rfl ?_
          refine v_iconst (v := nI 0) dX3_moves_53 (by decide) rfl ?_
          refine v_istore dX3_moves_54 (Nat.le_of_ble_eq_true rfl) rfl ?_
          first | (rw [cnt_t (p := fun w => ¬ ptsI s 0 w 4 = ptsI s 1 w 4) (n := k) ‹_›] at hin; exact hin) | (rw [cnt_f (p := fun w => ¬ ptsI s 0 w 4 = ptsI s 1 w 4) (n := k) (fun h => h ‹_›)] at hin; exact hin)
        · refine v_iconst (v := nI 1) dX3_moves_46 (by decide) rfl ?_
          refine v_goto (tgt := 51) dX3_moves_47 (by decide) ?_
          refine v_iaddN dX3_moves_51 rfl ?_
          refine v_istore_n dX3_moves_52 (Nat.le_of_ble_eq_true rfl) rfl ?_
          refine v_iconst (v := nI 0) dX3_moves_53 (by decide) rfl ?_
          refine v_istore dX3_moves_54 (Nat.le_of_ble_eq_true rfl) rfl ?_
          first | (rw [cnt_t (p := fun w => ¬ ptsI s 0 w 4 = ptsI s 1 w 4) (n := k) ‹_›] at hin; exact hin) | (rw [cnt_f (p := fun w => ¬ ptsI s 0 w 4 = ptsI s 1 w 4) (n := k) (fun h => h ‹_›)] at hin; exact hin)
  refine Ct.start 4 (by decide) rfl (Nat.le_of_ble_eq_true rfl) ?_
  refine v_iload_n dX3_moves_0 rfl rfl ?_
  refine v_iconst (v := nI 0) dX3_moves_1 (by decide) rfl ?_
  refine v_iconst (v := nI 1) dX3_moves_2 (by decide) rfl ?_
  refine v_csf dX3_moves_3 cw_X3_40 ts_X3_in ((c_in0 G hp (nI u) 1 (by decide)).yes (inR_nI hu (by decide))) (by rfl) (by rfl) (Nat.le_of_ble_eq_true rfl) (Nat.le_of_ble_eq_true rfl) (Nat.le_of_ble_eq_true rfl) (Nat.le_of_ble_eq_true rfl) (Nat.le_of_ble_eq_true rfl) rfl ?_
  refine v_if_ne (tgt := 12) dX3_moves_6 (by decide) rfl (fun _ => ?_) (fun q => absurd q (by decide))
  refine v_iconst (v := nI 0) dX3_moves_12 (by decide) rfl ?_
  refine v_istore_n dX3_moves_13 (Nat.le_of_ble_eq_true rfl) rfl ?_
  refine v_iconst (v := nI 0) dX3_moves_14 (by decide) rfl ?_
  refine v_istore_n dX3_moves_15 (Nat.le_of_ble_eq_true rfl) rfl ?_
  refine v_iconst (v := nI 0) dX3_moves_16 (by decide) rfl ?_
  refine v_istore dX3_moves_17 (Nat.le_of_ble_eq_true rfl) rfl ?_
  exact key 0 (Nat.zero_le _) _
theorem mm_moves_n {z : Int32} (h : ¬ InR z 2) : Ct G mX3_moves 6 0 0 [.ref (G.2.2.2 + 31), .int z] hp (Qf (some (.int (-100))) hp) := by
  refine Ct.start 4 (by decide) rfl (Nat.le_of_ble_eq_true rfl) ?_
  refine v_iload_n dX3_moves_0 rfl rfl ?_
  refine v_iconst (v := nI 0) dX3_moves_1 (by decide) rfl ?_
  refine v_iconst (v := nI 1) dX3_moves_2 (by decide) rfl ?_
  refine v_csf dX3_moves_3 cw_X3_40 ts_X3_in ((c_in0 G hp z 1 (by decide)).no h) (by rfl) (by rfl) (Nat.le_of_ble_eq_true rfl) (Nat.le_of_ble_eq_true rfl) (Nat.le_of_ble_eq_true rfl) (Nat.le_of_ble_eq_true rfl) (Nat.le_of_ble_eq_true rfl) rfl ?_
  refine v_if_ne (tgt := 12) dX3_moves_6 (by decide) rfl (fun q => absurd (by decide) q) (fun _ => ?_)
  refine v_bipush (v := (-100)) dX3_moves_9 (by decide) rfl ?_
  exact v_iret dX3_moves_11 rfl ⟨Nat.le_of_ble_eq_true rfl, Nat.le_of_ble_eq_true rfl⟩ (⟨rfl, rfl⟩)
theorem mm_count_y (hM : PM G s y hp) (hI : Inv s) {w : Nat} (hw : w < 5) : Ct G mX3_count 6 0 0 [.ref (G.2.2.2 + 31), .int (nI w)] hp (Qf (some (.int (ctI s w))) hp) := by
  obtain ⟨m0, m1, m2, m3, m4, m5, m6, m7, m8, m9, m10⟩ := hM.pr
  obtain ⟨hK, hF, hWf, hMk, hTr, hn⟩ := hM.pp
  have h5 : w = 0 ∨ w = 1 ∨ w = 2 ∨ w = 3 ∨ w = 4 := by omega
  refine Ct.start 2 (by decide) rfl (Nat.le_of_ble_eq_true rfl) ?_
  rcases h5 with h5 | h5 | h5 | h5 | h5 <;> subst h5
  · refine v_iconst (v := nI 0) dX3_count_0 (by decide) rfl ?_
    refine v_istore_n dX3_count_1 (Nat.le_of_ble_eq_true rfl) rfl ?_
    refine v_iload_n dX3_count_2 rfl rfl ?_
    refine v_tableIn (off := 33) (tgt := 36) dX3_count_3 (by decide) (by decide) (by decide) (by decide) ?_
    refine v_aload_n dX3_count_36 rfl rfl ?_
    refine v_getf dX3_count_37 fl_X3_77 (by first | assumption | exact set_get (by assumption) | exact (set_ne (by decide)).trans (by assumption) | exact set_get (set_get (by assumption))) (by rfl) rfl ?_
    exact v_iret dX3_count_40 rfl ⟨Nat.le_of_ble_eq_true rfl, Nat.le_of_ble_eq_true rfl⟩ (⟨rfl, rfl⟩)
  · have key : ∀ k, k ≤ s.n → Vm G mX3_count 6 0 0 (Qf (some (.int (ctI s 1))) hp) 43 [some (.ref (G.2.2.2 + 31)), some (.int (nI 1)), some (.int (nI (cnt (ancP s) k))), some (.int (nI k))] [] hp 0 0 := by
      refine loop_up ?_ (fun k hk ih => ?_)
      · refine v_iload_n dX3_count_43 rfl rfl ?_
        refine v_aload_n dX3_count_44 rfl rfl ?_
        refine v_getf dX3_count_45 fl_X3_77 (by first | assumption | exact set_get (by assumption) | exact (set_ne (by decide)).trans (by assumption) | exact set_get (set_get (by assumption))) (by rfl) rfl ?_
        refine v_icmp_geN (tgt := 77) dX3_count_48 (by decide) rfl (by omega) (by omega) (fun c48 => ?_) (fun c48 => ?_)
        · refine v_iload_n dX3_count_77 rfl rfl ?_
          exact v_iret dX3_count_78 rfl ⟨Nat.le_of_ble_eq_true rfl, Nat.le_of_ble_eq_true rfl⟩ (⟨rfl, rfl⟩)
        · exact absurd c48 (by omega)
      · refine v_iload_n dX3_count_43 rfl rfl ?_
        refine v_aload_n dX3_count_44 rfl rfl ?_
        refine v_getf dX3_count_45 fl_X3_77 (by first | assumption | exact set_get (by assumption) | exact (set_ne (by decide)).trans (by assumption) | exact set_get (set_get (by assumption))) (by rfl) rfl ?_
        refine v_icmp_geN (tgt := 77) dX3_count_48 (by decide) rfl (by omega) (by omega) (fun c48 => ?_) (fun c48 => ?_)
        · exact absurd c48 (by omega)
        · refine v_iload_n dX3_count_51 rfl rfl ?_
          refine v_aload_n dX3_count_52 rfl rfl ?_
          refine v_getf dX3_count_53 fl_X3_31 (by first | assumption | exact set_get (by assumption) | exact (set_ne (by decide)).trans (by assumption) | exact set_get (set_get (by assumption))) (by rfl) rfl ?_
          refine v_iload_n dX3_count_56 rfl rfl ?_
          refine v_iald _ dX3_count_57 (by first | assumption | exact set_get (by assumption) | exact (set_ne (by decide)).trans (by assumption) | exact set_get (set_get (by assumption))) rfl (by omega) (by decide) rfl ?_
          refine v_top (y := s.tr k) ((hTr k (by omega)).trans (if_pos hk)) ?_
          refine v_sipush (v := (-900)) dX3_count_58 (by decide) rfl ?_
          refine v_icmp_ne (tgt := 68) dX3_count_61 (by decide) rfl (fun c61 => ?_) (fun c61 => ?_)
          · refine v_iconst (v := nI 1) dX3_count_68 (by decide) rfl ?_
            refine v_iaddN dX3_count_69 rfl ?_
            refine v_istore_n dX3_count_70 (Nat.le_of_ble_eq_true rfl) rfl ?_
            refine v_iinc1 dX3_count_71 rfl (Nat.le_of_ble_eq_true rfl) rfl ?_
            refine v_goto (tgt := 43) dX3_count_74 (by decide) ?_
            first | (rw [cnt_t (p := ancP s) (n := k) ‹_›] at ih; exact ih) | (rw [cnt_f (p := ancP s) (n := k) (fun h => h ‹_›)] at ih; exact ih)
          · refine v_iconst (v := nI 0) dX3_count_64 (by decide) rfl ?_
            refine v_goto (tgt := 69) dX3_count_65 (by decide) ?_
            refine v_iaddN dX3_count_69 rfl ?_
            refine v_istore_n dX3_count_70 (Nat.le_of_ble_eq_true rfl) rfl ?_
            refine v_iinc1 dX3_count_71 rfl (Nat.le_of_ble_eq_true rfl) rfl ?_
            refine v_goto (tgt := 43) dX3_count_74 (by decide) ?_
            first | (rw [cnt_t (p := ancP s) (n := k) ‹_›] at ih; exact ih) | (rw [cnt_f (p := ancP s) (n := k) (fun h => h ‹_›)] at ih; exact ih)
    refine v_iconst (v := nI 0) dX3_count_0 (by decide) rfl ?_
    refine v_istore_n dX3_count_1 (Nat.le_of_ble_eq_true rfl) rfl ?_
    refine v_iload_n dX3_count_2 rfl rfl ?_
    refine v_tableIn (off := 38) (tgt := 41) dX3_count_3 (by decide) (by decide) (by decide) (by decide) ?_
    refine v_iconst (v := nI 0) dX3_count_41 (by decide) rfl ?_
    refine v_istore_n dX3_count_42 (Nat.le_of_ble_eq_true rfl) rfl ?_
    exact key 0 (Nat.zero_le _)
  · have key : ∀ k, k ≤ 36 → Vm G mX3_count 6 0 0 (Qf (some (.int (ctI s 2))) hp) 81 [some (.ref (G.2.2.2 + 31)), some (.int (nI 2)), some (.int (nI (cnt (fun i => ¬ y.2.1.2.1 i = -900) k))), some (.int (nI k))] [] hp 0 0 := by
      refine loop_up ?_ (fun k hk ih => ?_)
      · refine v_iload_n dX3_count_81 rfl rfl ?_
        refine v_bipush (v := nI 36) dX3_count_82 (by decide) rfl ?_
        refine v_icmp_geN (tgt := 113) dX3_count_84 (by decide) rfl (by omega) (by omega) (fun c84 => ?_) (fun c84 => ?_)
        · refine v_iload_n dX3_count_113 rfl rfl ?_
          exact v_iret dX3_count_114 rfl ⟨Nat.le_of_ble_eq_true rfl, Nat.le_of_ble_eq_true rfl⟩ (⟨by rw [cnt36 hn hMk]; rfl, rfl⟩)
        · exact absurd c84 (by omega)
      · refine v_iload_n dX3_count_81 rfl rfl ?_
        refine v_bipush (v := nI 36) dX3_count_82 (by decide) rfl ?_
        refine v_icmp_geN (tgt := 113) dX3_count_84 (by decide) rfl (by omega) (by omega) (fun c84 => ?_) (fun c84 => ?_)
        · exact absurd c84 (by omega)
        · refine v_iload_n dX3_count_87 rfl rfl ?_
          refine v_aload_n dX3_count_88 rfl rfl ?_
          refine v_getf dX3_count_89 fl_X3_28 (by first | assumption | exact set_get (by assumption) | exact (set_ne (by decide)).trans (by assumption) | exact set_get (set_get (by assumption))) (by rfl) rfl ?_
          refine v_iload_n dX3_count_92 rfl rfl ?_
          refine v_iald _ dX3_count_93 (by first | assumption | exact set_get (by assumption) | exact (set_ne (by decide)).trans (by assumption) | exact set_get (set_get (by assumption))) rfl (by omega) (by decide) rfl ?_
          refine v_sipush (v := (-900)) dX3_count_94 (by decide) rfl ?_
          refine v_icmp_ne (tgt := 104) dX3_count_97 (by decide) rfl (fun c97 => ?_) (fun c97 => ?_)
          · refine v_iconst (v := nI 1) dX3_count_104 (by decide) rfl ?_
            refine v_iaddN dX3_count_105 rfl ?_
            refine v_istore_n dX3_count_106 (Nat.le_of_ble_eq_true rfl) rfl ?_
            refine v_iinc1 dX3_count_107 rfl (Nat.le_of_ble_eq_true rfl) rfl ?_
            refine v_goto (tgt := 81) dX3_count_110 (by decide) ?_
            first | (rw [cnt_t (p := fun i => ¬ y.2.1.2.1 i = -900) (n := k) ‹_›] at ih; exact ih) | (rw [cnt_f (p := fun i => ¬ y.2.1.2.1 i = -900) (n := k) (fun h => h ‹_›)] at ih; exact ih)
          · refine v_iconst (v := nI 0) dX3_count_100 (by decide) rfl ?_
            refine v_goto (tgt := 105) dX3_count_101 (by decide) ?_
            refine v_iaddN dX3_count_105 rfl ?_
            refine v_istore_n dX3_count_106 (Nat.le_of_ble_eq_true rfl) rfl ?_
            refine v_iinc1 dX3_count_107 rfl (Nat.le_of_ble_eq_true rfl) rfl ?_
            refine v_goto (tgt := 81) dX3_count_110 (by decide) ?_
            first | (rw [cnt_t (p := fun i => ¬ y.2.1.2.1 i = -900) (n := k) ‹_›] at ih; exact ih) | (rw [cnt_f (p := fun i => ¬ y.2.1.2.1 i = -900) (n := k) (fun h => h ‹_›)] at ih; exact ih)
    refine v_iconst (v := nI 0) dX3_count_0 (by decide) rfl ?_
    refine v_istore_n dX3_count_1 (Nat.le_of_ble_eq_true rfl) rfl ?_
    refine v_iload_n dX3_count_2 rfl rfl ?_
    refine v_tableIn (off := 76) (tgt := 79) dX3_count_3 (by decide) (by decide) (by decide) (by decide) ?_
    refine v_iconst (v := nI 0) dX3_count_79 (by decide) rfl ?_
    refine v_istore_n dX3_count_80 (Nat.le_of_ble_eq_true rfl) rfl ?_
    exact key 0 (Nat.zero_le _)
  · have key : ∀ k, k ≤ 4 → Vm G mX3_count 6 0 0 (Qf (some (.int (ctI s 3))) hp) 117 [some (.ref (G.2.2.2 + 31)), some (.int (nI 3)), some (.int (nI (cnt (senS s 0) k))), some (.int (nI k))] [] hp 0 0 := by
      refine loop_up ?_ (fun k hk ih => ?_)
      · refine v_iload_n dX3_count_117 rfl rfl ?_
        refine v_iconst (v := nI 4) dX3_count_118 (by decide) rfl ?_
        refine v_icmp_geN (tgt := 150) dX3_count_119 (by decide) rfl (by omega) (by omega) (fun c119 => ?_) (fun c119 => ?_)
        · refine v_iload_n dX3_count_150 rfl rfl ?_
          exact v_iret dX3_count_151 rfl ⟨Nat.le_of_ble_eq_true rfl, Nat.le_of_ble_eq_true rfl⟩ (⟨rfl, rfl⟩)
        · exact absurd c119 (by omega)
      · refine v_iload_n dX3_count_117 rfl rfl ?_
        refine v_iconst (v := nI 4) dX3_count_118 (by decide) rfl ?_
        refine v_icmp_geN (tgt := 150) dX3_count_119 (by decide) rfl (by omega) (by omega) (fun c119 => ?_) (fun c119 => ?_)
        · exact absurd c119 (by omega)
        · refine v_iload_n dX3_count_122 rfl rfl ?_
          refine v_aload_n dX3_count_123 rfl rfl ?_
          refine v_iconst (v := nI 4) dX3_count_124 (by decide) rfl ?_
          refine v_iload_n dX3_count_125 rfl rfl ?_
          refine v_iconst (v := nI 3) dX3_count_126 (by decide) rfl ?_
          refine v_isub dX3_count_127 rfl ?_
          refine v_top (y := nI 0) (by decide) ?_
          refine v_imul dX3_count_128 rfl ?_
          refine v_top (y := nI 0) (by decide) ?_
          refine v_iload_n dX3_count_129 rfl rfl ?_
          refine v_iaddN dX3_count_130 rfl ?_
          refine v_top (y := nI (0 * 4 + k)) (congrArg nI (by omega)) ?_
          by_cases q131 : senS s 0 k
          · refine v_cvf dX3_count_131 cw_X3_73 ⟨tn_X3_isSensible, tl_X3_isSensible⟩ rfl (by first | assumption | exact set_get (by assumption) | exact (set_ne (by decide)).trans (by assumption) | exact set_get (set_get (by assumption))) ((m_isSensible G hp hM hI (i := 0 * 4 + k) (by omega)).yes ‹_›) (by rfl) (by rfl) (Nat.le_of_ble_eq_true rfl) (Nat.le_of_ble_eq_true rfl) (Nat.le_of_ble_eq_true rfl) (Nat.le_of_ble_eq_true rfl) (Nat.le_of_ble_eq_true rfl) rfl ?_
            refine v_if_eq (tgt := 141) dX3_count_134 (by decide) rfl (fun q => absurd q (by decide)) (fun _ => ?_)
            refine v_iconst (v := nI 1) dX3_count_137 (by decide) rfl ?_
            refine v_goto (tgt := 142) dX3_count_138 (by decide) ?_
            refine v_iaddN dX3_count_142 rfl ?_
            refine v_istore_n dX3_count_143 (Nat.le_of_ble_eq_true rfl) rfl ?_
            refine v_iinc1 dX3_count_144 rfl (Nat.le_of_ble_eq_true rfl) rfl ?_
            refine v_goto (tgt := 117) dX3_count_147 (by decide) ?_
            first | (rw [cnt_t (p := senS s 0) (n := k) ‹_›] at ih; exact ih) | (rw [cnt_f (p := senS s 0) (n := k) ‹_›] at ih; exact ih)
          · refine v_cvf dX3_count_131 cw_X3_73 ⟨tn_X3_isSensible, tl_X3_isSensible⟩ rfl (by first | assumption | exact set_get (by assumption) | exact (set_ne (by decide)).trans (by assumption) | exact set_get (set_get (by assumption))) ((m_isSensible G hp hM hI (i := 0 * 4 + k) (by omega)).no ‹_›) (by rfl) (by rfl) (Nat.le_of_ble_eq_true rfl) (Nat.le_of_ble_eq_true rfl) (Nat.le_of_ble_eq_true rfl) (Nat.le_of_ble_eq_true rfl) (Nat.le_of_ble_eq_true rfl) rfl ?_
            refine v_if_eq (tgt := 141) dX3_count_134 (by decide) rfl (fun _ => ?_) (fun q => absurd (by decide) q)
            refine v_iconst (v := nI 0) dX3_count_141 (by decide) rfl ?_
            refine v_iaddN dX3_count_142 rfl ?_
            refine v_istore_n dX3_count_143 (Nat.le_of_ble_eq_true rfl) rfl ?_
            refine v_iinc1 dX3_count_144 rfl (Nat.le_of_ble_eq_true rfl) rfl ?_
            refine v_goto (tgt := 117) dX3_count_147 (by decide) ?_
            first | (rw [cnt_t (p := senS s 0) (n := k) ‹_›] at ih; exact ih) | (rw [cnt_f (p := senS s 0) (n := k) ‹_›] at ih; exact ih)
    refine v_iconst (v := nI 0) dX3_count_0 (by decide) rfl ?_
    refine v_istore_n dX3_count_1 (Nat.le_of_ble_eq_true rfl) rfl ?_
    refine v_iload_n dX3_count_2 rfl rfl ?_
    refine v_tableIn (off := 112) (tgt := 115) dX3_count_3 (by decide) (by decide) (by decide) (by decide) ?_
    refine v_iconst (v := nI 0) dX3_count_115 (by decide) rfl ?_
    refine v_istore_n dX3_count_116 (Nat.le_of_ble_eq_true rfl) rfl ?_
    exact key 0 (Nat.zero_le _)
  · have key : ∀ k, k ≤ 4 → Vm G mX3_count 6 0 0 (Qf (some (.int (ctI s 4))) hp) 117 [some (.ref (G.2.2.2 + 31)), some (.int (nI 4)), some (.int (nI (cnt (senS s 1) k))), some (.int (nI k))] [] hp 0 0 := by
      refine loop_up ?_ (fun k hk ih => ?_)
      · refine v_iload_n dX3_count_117 rfl rfl ?_
        refine v_iconst (v := nI 4) dX3_count_118 (by decide) rfl ?_
        refine v_icmp_geN (tgt := 150) dX3_count_119 (by decide) rfl (by omega) (by omega) (fun c119 => ?_) (fun c119 => ?_)
        · refine v_iload_n dX3_count_150 rfl rfl ?_
          exact v_iret dX3_count_151 rfl ⟨Nat.le_of_ble_eq_true rfl, Nat.le_of_ble_eq_true rfl⟩ (⟨rfl, rfl⟩)
        · exact absurd c119 (by omega)
      · refine v_iload_n dX3_count_117 rfl rfl ?_
        refine v_iconst (v := nI 4) dX3_count_118 (by decide) rfl ?_
        refine v_icmp_geN (tgt := 150) dX3_count_119 (by decide) rfl (by omega) (by omega) (fun c119 => ?_) (fun c119 => ?_)
        · exact absurd c119 (by omega)
        · refine v_iload_n dX3_count_122 rfl rfl ?_
          refine v_aload_n dX3_count_123 rfl rfl ?_
          refine v_iconst (v := nI 4) dX3_count_124 (by decide) rfl ?_
          refine v_iload_n dX3_count_125 rfl rfl ?_
          refine v_iconst (v := nI 3) dX3_count_126 (by decide) rfl ?_
          refine v_isub dX3_count_127 rfl ?_
          refine v_top (y := nI 1) (by decide) ?_
          refine v_imul dX3_count_128 rfl ?_
          refine v_top (y := nI 4) (by decide) ?_
          refine v_iload_n dX3_count_129 rfl rfl ?_
          refine v_iaddN dX3_count_130 rfl ?_
          refine v_top (y := nI (1 * 4 + k)) (congrArg nI (by omega)) ?_
          by_cases q131 : senS s 1 k
          · refine v_cvf dX3_count_131 cw_X3_73 ⟨tn_X3_isSensible, tl_X3_isSensible⟩ rfl (by first | assumption | exact set_get (by assumption) | exact (set_ne (by decide)).trans (by assumption) | exact set_get (set_get (by assumption))) ((m_isSensible G hp hM hI (i := 1 * 4 + k) (by omega)).yes ‹_›) (by rfl) (by rfl) (Nat.le_of_ble_eq_true rfl) (Nat.le_of_ble_eq_true rfl) (Nat.le_of_ble_eq_true rfl) (Nat.le_of_ble_eq_true rfl) (Nat.le_of_ble_eq_true rfl) rfl ?_
            refine v_if_eq (tgt := 141) dX3_count_134 (by decide) rfl (fun q => absurd q (by decide)) (fun _ => ?_)
            refine v_iconst (v := nI 1) dX3_count_137 (by decide) rfl ?_
            refine v_goto (tgt := 142) dX3_count_138 (by decide) ?_
            refine v_iaddN dX3_count_142 rfl ?_
            refine v_istore_n dX3_count_143 (Nat.le_of_ble_eq_true rfl) rfl ?_
            refine v_iinc1 dX3_count_144 rfl (Nat.le_of_ble_eq_true rfl) rfl ?_
            refine v_goto (tgt := 117) dX3_count_147 (by decide) ?_
            first | (rw [cnt_t (p := senS s 1) (n := k) ‹_›] at ih; exact ih) | (rw [cnt_f (p := senS s 1) (n := k) ‹_›] at ih; exact ih)
          · refine v_cvf dX3_count_131 cw_X3_73 ⟨tn_X3_isSensible, tl_X3_isSensible⟩ rfl (by first | assumption | exact set_get (by assumption) | exact (set_ne (by decide)).trans (by assumption) | exact set_get (set_get (by assumption))) ((m_isSensible G hp hM hI (i := 1 * 4 + k) (by omega)).no ‹_›) (by rfl) (by rfl) (Nat.le_of_ble_eq_true rfl) (Nat.le_of_ble_eq_true rfl) (Nat.le_of_ble_eq_true rfl) (Nat.le_of_ble_eq_true rfl) (Nat.le_of_ble_eq_true rfl) rfl ?_
            refine v_if_eq (tgt := 141) dX3_count_134 (by decide) rfl (fun _ => ?_) (fun q => absurd (by decide) q)
            refine v_iconst (v := nI 0) dX3_count_141 (by decide) rfl ?_
            refine v_iaddN dX3_count_142 rfl ?_
            refine v_istore_n dX3_count_143 (Nat.le_of_ble_eq_true rfl) rfl ?_
            refine v_iinc1 dX3_count_144 rfl (Nat.le_of_ble_eq_true rfl) rfl ?_
            refine v_goto (tgt := 117) dX3_count_147 (by decide) ?_
            first | (rw [cnt_t (p := senS s 1) (n := k) ‹_›] at ih; exact ih) | (rw [cnt_f (p := senS s 1) (n := k) ‹_›] at ih; exact ih)
    refine v_iconst (v := nI 0) dX3_count_0 (by decide) rfl ?_
    refine v_istore_n dX3_count_1 (Nat.le_of_ble_eq_true rfl) rfl ?_
    refine v_iload_n dX3_count_2 rfl rfl ?_
    refine v_tableIn (off := 112) (tgt := 115) dX3_count_3 (by decide) (by decide) (by decide) (by decide) ?_
    refine v_iconst (v := nI 0) dX3_count_115 (by decide) rfl ?_
    refine v_istore_n dX3_count_116 (Nat.le_of_ble_eq_true rfl) rfl ?_
    exact key 0 (Nat.zero_le _)
theorem mm_count_n {z : Int32} (h : ¬ InR z 5) : Ct G mX3_count 6 0 0 [.ref (G.2.2.2 + 31), .int z] hp (Qf (some (.int (-100))) hp) := by
  refine Ct.start 2 (by decide) rfl (Nat.le_of_ble_eq_true rfl) ?_
  refine v_iconst (v := nI 0) dX3_count_0 (by decide) rfl ?_
  refine v_istore_n dX3_count_1 (Nat.le_of_ble_eq_true rfl) rfl ?_
  refine v_iload_n dX3_count_2 rfl rfl ?_
  refine v_tableOut (tgt := 152) dX3_count_3 (out_of (by decide) h) (by decide) ?_
  refine v_bipush (v := (-100)) dX3_count_152 (by decide) rfl ?_
  exact v_iret dX3_count_154 rfl ⟨Nat.le_of_ble_eq_true rfl, Nat.le_of_ble_eq_true rfl⟩ (⟨rfl, rfl⟩)
end MFACE3

