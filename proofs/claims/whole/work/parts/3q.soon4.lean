/-! ===== soonest: strengths going down ===== -/
section
variable {m : zzS} {T : zT}
theorem m_so_o (h : zMT m T) (p1 : Int32) {q a : Nat} (hq : q < zn T) (ha : 1 ≤ a ∧ a ≤ 9) : ∀ s n r f, s ≤ 5 → s < n → r.1 + 3500 * s < 40000 → (∀ w, f = some w → w < zn T) → f_X12_soonest_56 (nI q) p1 n (nI a - nI r.1) (nI r.2) (zwI f) (nI 1) (nI s) m = some (if (zdown (zso T q a) s r).1 < a then -4 else if p1 = nI 0 then nI (zdown (zso T q a) s r).2 else zwI (zdown (zwo2 T q) s f), m) := by
  have h7 := h.1.1
  intro s
  induction s with
  | zero =>
    intro n r f h1 h2 h3 h4
    obtain ⟨n, rfl⟩ : ∃ n', n = n' + 1 := ⟨n - 1, by omega⟩
    show f_X12_soonest_56b _ (nI q) p1 (nI a - nI r.1) (nI r.2) (zwI f) (nI 1) (nI 0) m = some (if r.1 < a then -4 else if p1 = nI 0 then nI r.2 else zwI f, m)
    unfold f_X12_soonest_56b
    rw [q0, if_neg (show ¬ nI 0 < nI 0 by decide)]
    by_cases c : r.1 < a
    · rw [if_pos ((q_dif0 (by omega) (by omega)).mpr c), if_pos c]
    · rw [if_neg (fun z => c ((q_dif0 (by omega) (by omega)).mp z)), if_neg c]
      by_cases c2 : p1 = nI 0
      · rw [if_pos c2, if_pos c2]
      · rw [if_neg c2, if_neg c2]
  | succ s ih =>
    intro n r f h1 h2 h3 h4
    obtain ⟨n, rfl⟩ : ∃ n', n = n' + 1 := ⟨n - 1, by omega⟩
    have g := m_so_p h (f_X12_soonest_56 (nI q) p1 n) p1 hq ha (s := s + 1) (by omega) (zn T) 200 0 r f (by omega) (by omega) (by omega) h4
    have hl := zso_le (T := T) (q := q) (a := a) (s := s + 1) (by omega) (zn T) 0 r
    have e := ih n (zso T q a (s + 1) r) (zwo2 T q (s + 1) f) (by omega) (by omega) (by unfold zso; omega) (zwo_lt (zn T) 0 f (by omega) h4)
    have hs1 : nI (s + 1) - nI 1 = nI s := by rw [q_sub (by omega)]; rfl
    rw [hs1] at g
    rw [zdown_s, zdown_s, ← e]
    unfold zso zwo2
    rw [← g]
    show f_X12_soonest_56b _ (nI q) p1 (nI a - nI r.1) (nI r.2) (zwI f) (nI 1) (nI (s + 1)) m = _
    unfold f_X12_soonest_56b
    rw [q0, if_pos ((q_lt (by omega) (by omega)).mpr (by omega))]
end
