/-! ===== enough ===== -/
def zhs (T : zT) (L : Nat) : Nat → Nat → Bool
  | 0, _ => true
  | d + 1, i => if zfit T L i = 0 then false else zhs T L d (i + 1)
theorem zhs_s (T : zT) (L d i : Nat) : zhs T L (d + 1) i = if zfit T L i = 0 then false else zhs T L d (i + 1) := rfl
theorem zng_ge (T : zT) (L q a : Nat) : a ≤ zng T L q a := by
  unfold zng
  split
  · exact Nat.left_le_or
  · exact Nat.le_refl a
theorem zng_up (T : zT) (L : Nat) : ∀ d i a, a ≤ zup (zng T L) d i a
  | 0, _, _ => Nat.le_refl _
  | d + 1, i, a => by rw [zup_s]; exact Nat.le_trans (zng_ge T L i a) (zng_up T L d (i + 1) _)
theorem zng_hs (T : zT) (L : Nat) : ∀ d i, zup (zng T L) d i 0 = 0 ↔ zhs T L d i = true
  | 0, _ => ⟨fun _ => rfl, fun _ => rfl⟩
  | d + 1, i => by
    rw [zup_s, zhs_s]
    by_cases c : zfit T L i = 0
    · rw [if_pos c]
      have h1 : zng T L i 0 = 2 ^ i := by unfold zng; rw [if_pos c, Nat.zero_or]
      have h2 := zng_up T L d (i + 1) (zng T L i 0)
      have h3 : 0 < 2 ^ i := Nat.pow_pos (by omega)
      exact ⟨fun z => by omega, fun z => by cases z⟩
    · rw [if_neg c]
      have h1 : zng T L i 0 = 0 := by unfold zng; rw [if_neg c]
      rw [h1]; exact zng_hs T L d (i + 1)
theorem zng_lt (T : zT) (L : Nat) {N : Nat} (h7 : N ≤ 7) : zup (zng T L) N 0 0 < 2 ^ 7 := by
  refine zup_P _ (fun a => a < 2 ^ 7) _ _ _ (fun j b h1 h2 h3 => ?_) (by decide)
  unfold zng
  split
  · exact Nat.or_lt_two_pow h3 (Nat.pow_lt_pow_right (by omega) (by omega))
  · exact h3
def zpe (T : zT) (w L : Nat) : Bool := if w = 0 then decide (0 < zW (zfit T L) (zn T) (zn T) 0) else zhs T L (zn T) 0
section
variable {T : zT}
theorem x_hs_l {x : zzS} (h : zXT x 20 T) {L : Nat} (hL : L < 100) : ∀ d n i, i + d = zn T → d < n → f_X11_eachHasSomebody_2 (nI L) n (nI i) x = some (zbn (zhs T L d i), x) := by
  have h7 := h.1.1
  have ht : zztown 20 := Or.inl rfl
  intro d
  induction d with
  | zero =>
    intro n i hi hn
    obtain ⟨n, rfl⟩ : ∃ n', n = n' + 1 := ⟨n - 1, by omega⟩
    have : i = zn T := by omega
    subst this
    show f_X11_eachHasSomebody_2b _ (nI L) (nI (zn T)) x = _
    unfold f_X11_eachHasSomebody_2b
    rw [h.2.1, if_neg (fun z => Nat.lt_irrefl _ ((q_lt (by omega) (by omega)).mp z))]
    rfl
  | succ d ih =>
    intro n i hi hn
    obtain ⟨n, rfl⟩ : ∃ n', n = n' + 1 := ⟨n - 1, by omega⟩
    have hi2 : i < zn T := by omega
    have hf := zfit_lt h.1 L i
    show f_X11_eachHasSomebody_2b (f_X11_eachHasSomebody_2 (nI L) n) (nI L) (nI i) x = _
    unfold f_X11_eachHasSomebody_2b
    rw [h.2.1, if_pos ((q_lt (by omega) (by omega)).mpr hi2), x_fit h ht hi2 hL, zzbd_s, zhs_s]
    by_cases c : zfit T L i = 0
    · rw [if_pos (show nI (zfit T L i) = 0 by rw [c]; rfl), if_pos c]; rfl
    · rw [if_neg (q_ne0 (by omega) c), if_neg c, q1, nI_add, zzlt_eq]
      exact ih n (i + 1) (by omega) (by omega)
theorem x_aat {x : zzS} (h : zXT x 20 T) {L : Nat} (hL : L < 100) : ∃ x', f_X11_allAreTold (nI L) x = some (zbn (decide (0 < zW (zfit T L) (zn T) (zn T) 0)), x') ∧ zCF x x' := by
  have h7 := h.1.1
  obtain ⟨x1, a1, a2, a3, a4⟩ := x_gather h (L := L) hL
  obtain ⟨x2, b1, b2⟩ := x_wy (F := zfit T L) h7 a2 a3
  have hb := zW_lt (zfit T L) h7 0
  refine ⟨x2, ?_, zCF_tr a4 b2⟩
  unfold f_X11_allAreTold
  rw [a1, zzbd_s, b1, zzbd_s]
  by_cases c : 0 < zW (zfit T L) (zn T) (zn T) 0
  · rw [if_pos (show (0 : Int32) < nI _ from (q_lt (a := 0) (by omega) (by omega)).mpr c), decide_eq_true c]; rfl
  · rw [if_neg (fun z : (0 : Int32) < nI _ => c ((q_lt (a := 0) (by omega) (by omega)).mp z)), decide_eq_false c]; rfl
theorem x_en {w : Nat} (hw : w < 2) : ∀ d n i x, i + d = 10 → d < n → zXT x 20 T → ∃ x', f_X11_enough_11 (nI w) n (nI i) x = some (zfst (zpe T w) nI d i (-4), x') ∧ zCF x x' := by
  intro d
  induction d with
  | zero =>
    intro n i x hi hn h
    obtain ⟨n, rfl⟩ : ∃ n', n = n' + 1 := ⟨n - 1, by omega⟩
    have : i = 10 := by omega
    subst this
    refine ⟨x, ?_, zCF_refl x⟩
    show f_X11_enough_11b _ (nI w) (nI 10) x = _
    unfold f_X11_enough_11b
    rw [if_pos (show (9 : Int32) < nI 10 by decide), zfst_z]
  | succ d ih =>
    intro n i x hi hn h
    obtain ⟨n, rfl⟩ : ∃ n', n = n' + 1 := ⟨n - 1, by omega⟩
    have n9 : ¬ (9 : Int32) < nI i := fun z => by
      have := (q_lt (a := 9) (by omega) (by omega)).mp z; omega
    have key : ∃ x1, (if nI w = 0 then f_X11_allAreTold (nI i) x else f_X11_eachHasSomebody (nI i) x) = some (zbn (zpe T w i), x1) ∧ zCF x x1 := by
      by_cases c : w = 0
      · obtain ⟨x1, g1, g2⟩ := x_aat h (L := i) (by omega)
        refine ⟨x1, ?_, g2⟩
        rw [if_pos (show nI w = 0 by rw [c]; rfl), g1]; unfold zpe; rw [if_pos c]
      · refine ⟨x, ?_, zCF_refl x⟩
        have h7 := h.1.1
        rw [if_neg (q_ne0 (by omega) c)]
        unfold f_X11_eachHasSomebody zpe
        rw [q0, x_hs_l h (by omega) (zn T) 200 0 (by omega) (by omega), if_neg c]
    obtain ⟨x1, g1, g2⟩ := key
    obtain ⟨x2, g3, g4⟩ := ih n (i + 1) x1 (by omega) (by omega) (zXT_cf (Or.inl rfl) h g2)
    have e0 : f_X11_enough_11 (nI w) (n + 1) (nI i) x = zzbd (if nI w = 0 then f_X11_allAreTold (nI i) x else f_X11_eachHasSomebody (nI i) x) (fun r σ => if r = 0 then f_X11_enough_42 (f_X11_enough_11 (nI w) n) (nI w) (nI i) σ else some (nI i, σ)) := by
      show f_X11_enough_11b (f_X11_enough_11 (nI w) n) (nI w) (nI i) x = _
      unfold f_X11_enough_11b
      rw [if_neg n9]
      split <;> rfl
    rw [e0, g1, zzbd_s, zfst_s]
    cases e : zpe T w i with
    | true => exact ⟨x1, by rw [zbn_t, if_neg (show ¬ nI 1 = 0 by decide), if_pos rfl], g2⟩
    | false =>
      refine ⟨x2, ?_, zCF_tr g2 g4⟩
      rw [zbn_f, if_pos (show nI 0 = 0 from rfl), if_neg Bool.false_ne_true]
      unfold f_X11_enough_42
      rw [q1, nI_add, zzlt_eq]
      exact g3
theorem zPM_5 (m : zzS) (v : Int32) : zPM m (zzsi m 36 5 v) := ⟨rfl, fun _ _ _ => rfl, fun _ => rfl⟩
theorem m_en (hl : zl T ≤ 9) {w : Nat} (hw : w < 2) : ∀ e n m f v, e ≤ 10 → e < n → zMT m (ztl T v) → ∃ m', f_X12_enough_29 (nI w) n (nI (zl T)) f (nI e - nI 1) m = some (zfst (zpe T w) nI e 0 f, m') ∧ zMT m' T ∧ zPM m m' := by
  intro e
  induction e with
  | zero =>
    intro n m f v he hn h
    obtain ⟨n, rfl⟩ : ∃ n', n = n' + 1 := ⟨n - 1, by omega⟩
    refine ⟨zzsi m 36 5 (nI (zl T)), ?_, ms_l h hl, zPM_5 m _⟩
    show f_X12_enough_29b _ (nI w) (nI (zl T)) f (nI 0 - nI 1) m = _
    unfold f_X12_enough_29b
    rw [if_pos (show nI 0 - nI 1 < 0 by decide +kernel), zzlt_eq, zfst_z]
  | succ e ih =>
    intro n m f v he hn h
    obtain ⟨n, rfl⟩ : ∃ n', n = n' + 1 := ⟨n - 1, by omega⟩
    have h7 : zn T ≤ 7 := h.1.1
    have hs : nI (e + 1) - nI 1 = nI e := by rw [q_sub (by omega)]; rfl
    have h2 : zMT (zzsi m 36 5 (nI e)) (ztl T e) := ms_l h (v := e) (by omega)
    have key : ∃ m1 c, (if nI w = 0 then zzbd (f_X12_layTold (zzsi m 36 5 (nI e))) (fun r8 σ9 => (if r8 = (zzi σ9 36 0) then (some ((1 : Int32), σ9)) else (some ((0 : Int32), σ9)))) else zzbd (f_X12_nobodyBits (zzsi m 36 5 (nI e))) (fun r5 σ6 => (if r5 = 0 then (some ((1 : Int32), σ6)) else (some ((0 : Int32), σ6))))) = some (c, m1) ∧ c = zbn (zpe T w e) ∧ zMT m1 (ztl T e) ∧ zPM m m1 := by
      by_cases c : w = 0
      · obtain ⟨m1, g1, g2, g3⟩ := m_lay h2
        have hM := zMW (zfit T e) (zn T) (zn T) 0
        have g1' : f_X12_layTold (zzsi m 36 5 (nI e)) = some (nI (zM (zfit T e) (zn T) (zn T) 0), m1) := g1
        have h3 : zzi m1 36 0 = nI (zn T) := (zMT_tf h2 g2).2.1
        refine ⟨m1, zbn (zpe T w e), ?_, rfl, zMT_tf h2 g2, zPM_tr (zPM_5 m _) (zPM_tf g2)⟩
        rw [if_pos (show nI w = 0 by rw [c]; rfl), g1', zzbd_s, h3]
        unfold zpe
        rw [if_pos c]
        by_cases c2 : zM (zfit T e) (zn T) (zn T) 0 = zn T
        · rw [if_pos (by rw [c2]), decide_eq_true (hM.2.mp c2)]; rfl
        · rw [if_neg (fun z => c2 ((q_eq (by omega) (by omega)).mp z)), decide_eq_false (fun z => c2 (hM.2.mpr z))]; rfl
      · have g1 : f_X12_nobodyBits (zzsi m 36 5 (nI e)) = some (nI (zup (zng T e) (zn T) 0 0), zzsi m 36 5 (nI e)) := m_nob h2
        have hb := zng_lt T e h7
        have hh := zng_hs T e (zn T) 0
        refine ⟨_, zbn (zpe T w e), ?_, rfl, h2, zPM_5 m _⟩
        rw [if_neg (q_ne0 (by omega) c), g1, zzbd_s]
        unfold zpe
        rw [if_neg c]
        by_cases c2 : zup (zng T e) (zn T) 0 0 = 0
        · rw [if_pos (show nI _ = 0 by rw [c2]; rfl), hh.mp c2]; rfl
        · rw [if_neg (q_ne0 (by omega) c2)]
          cases e5 : zhs T e (zn T) 0 with
          | true => exact absurd (hh.mpr e5) c2
          | false => rfl
    obtain ⟨m1, c, g1, gc, g2, g3⟩ := key
    obtain ⟨m2, g4, g5, g6⟩ := ih n m1 (if zpe T w e = true then nI e else f) e (by omega) (by omega) g2
    have e0 : f_X12_enough_29 (nI w) (n + 1) (nI (zl T)) f (nI e) m = zzbd (if nI w = 0 then zzbd (f_X12_layTold (zzsi m 36 5 (nI e))) (fun r8 σ9 => (if r8 = (zzi σ9 36 0) then (some ((1 : Int32), σ9)) else (some ((0 : Int32), σ9)))) else zzbd (f_X12_nobodyBits (zzsi m 36 5 (nI e))) (fun r5 σ6 => (if r5 = 0 then (some ((1 : Int32), σ6)) else (some ((0 : Int32), σ6))))) (fun r σ => f_X12_enough_75 (f_X12_enough_29 (nI w) n) (nI w) (nI (zl T)) f (nI e) r σ) := by
      show f_X12_enough_29b (f_X12_enough_29 (nI w) n) (nI w) (nI (zl T)) f (nI e) m = _
      unfold f_X12_enough_29b
      rw [if_neg (q_neg (by omega)), zzlt_eq]
      by_cases c : nI w = 0
      · rw [if_pos c, if_pos c]
        cases f_X12_layTold (zzsi m 36 5 (nI e)) with
        | none => rfl
        | some rs => show (if _ then _ else _) = zzbd (if _ then _ else _) _; split <;> rfl
      · rw [if_neg c, if_neg c]
        cases f_X12_nobodyBits (zzsi m 36 5 (nI e)) with
        | none => rfl
        | some rs => show (if _ then _ else _) = zzbd (if _ then _ else _) _; split <;> rfl
    refine ⟨m2, ?_, g5, zPM_tr g3 g6⟩
    rw [hs, e0, g1, zzbd_s, zfst_last, Nat.zero_add, ← g4, gc]
    unfold f_X12_enough_75 f_X12_enough_88
    cases e : zpe T w e with
    | true => rw [zbn_t, if_neg (show ¬ nI 1 = 0 by decide), if_pos rfl, q1, q_dn, zzlt_eq]
    | false => rw [zbn_f, if_pos (show nI 0 = 0 from rfl), if_neg Bool.false_ne_true, q1, q_dn, zzlt_eq]
end
theorem s_enough (p : Int32) : zSim (f_X11_enough p) (f_X12_enough p) := by
  refine zSim_T (fun x m T hx hm hs hi => ?_)
  have hm1 : zMT (zzsi m 36 13 (nI 0)) T := hm
  rcases q_cls p 2 (by omega) with ⟨w, hw, rfl⟩ | hp
  · obtain ⟨x1, a1, a2⟩ := x_en hw 10 200 0 x (by omega) (by omega) hx
    obtain ⟨m1, b1, b2, b3⟩ := m_en hx.1.2.1 hw 10 200 (zzsi m 36 13 (nI 0)) (-4) (zl T) (by omega) (by omega) hm1
    refine ⟨zfst (zpe T w) nI 10 0 (-4), x1, m1, T, ?_, ?_, zXT_cf (Or.inl rfl) hx a2, b2, zPX_cf a2, zPM_tr (zPM_13 m _) b3⟩
    · unfold f_X11_enough
      rw [x_12 hw, zzbd_s, if_neg (show ¬ nI 1 = 0 by decide), q0, a1]
    · have e9 : nI 10 - nI 1 = (9 : Int32) := by decide +kernel
      rw [e9] at b1
      unfold f_X12_enough
      rw [q0, zzlt_eq, m_in1 hw, zzbd_s, if_neg (show ¬ nI 1 = nI 0 by decide), hm1.2.2.1, zzlt_eq]
      exact b1
  · refine ⟨-1, x, zzsi m 36 13 (nI 0), T, ?_, ?_, hx, hm1, zPX_refl x, zPM_13 m _⟩
    · unfold f_X11_enough
      rw [x_12_bad hp, zzbd_s, if_pos (show nI 0 = 0 from rfl)]
    · unfold f_X12_enough
      rw [q0, zzlt_eq, m_in1_bad hp, zzbd_s, if_pos rfl]
