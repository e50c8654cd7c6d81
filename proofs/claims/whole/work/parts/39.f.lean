/-! the reference's recipe, laid into its bank -/
section BANK
variable {K V : Nat → Int32} {N : Nat → Nat} {T : TT} {δ : Nat → Nat} {r n d : Nat} {b : Int32}
noncomputable def CQ (r d : Nat) (c l : Nat → Int32) : Prop := (∀ k : Nat, k < 300 * r ∨ 300 * r + d ≤ k → l k = c k) ∧ ∀ m : Nat, m < d → l (300 * r + m) = c (2400 + m)
theorem CQ.z {c : Nat → Int32} : CQ r 0 c c := ⟨fun _ _ => rfl, fun m h => absurd h (by omega)⟩
theorem CQ.step {c l : Nat → Int32} (h : CQ r d c l) (hr : r < 8) {x : Nat} (e : x = 300 * r + d) {v : Int32} (hv : v = l (2400 + d)) (hd : d < 300) : CQ r (d + 1) c (upd l x v) := by
  subst e
  have g := h.1 (2400 + d) (Or.inr (by omega))
  refine ⟨fun k hk => ?_, fun m hm => ?_⟩
  · rw [show upd l (300 * r + d) v k = l k from if_neg (by omega)]
    exact h.1 k (by omega)
  · by_cases e : m = d
    · subst e
      rw [show upd l (300 * r + m) v (300 * r + m) = v from if_pos rfl, hv, g]
    · rw [show upd l (300 * r + d) v (300 * r + m) = l (300 * r + m) from if_neg (by omega)]
      exact h.2 m (by omega)
theorem lnk.le {e x : Nat} (h : lnk n δ e x) : x ≤ n := by
  rcases h with h | ⟨q, h1, h2, -⟩ <;> omega
theorem EvT.ok {u w : SGT} (h : EvT K V N 0 0 0 u w) (h0 : w.1.2.2.1 = 0) (hu : u.1.2.1 = 0) : ∃ δ : Nat → Nat, (∀ j : Nat, j < w.1.2.1 → GN K V N w.2 w.1.2.1 δ j) ∧ (0 < w.1.2.1 → δ 0 = 0) := by
  obtain ⟨n, h⟩ := h
  obtain ⟨δ, -, -, -, -, g5, g6, -, -⟩ := gt_ok n 0 0 0 u w h h0 (by omega) (by omega) (fun e => absurd e (by decide)) (fun _ => Nat.zero_le _) (fun j => j)
  rw [hu] at g5 g6
  exact ⟨δ, fun j hj => g5 j (Nat.zero_le _) hj, fun h => g6 h⟩
noncomputable def BK8 (a26 a27 a28 a29 a30 a31 a32 a33 c26 c27 c28 c29 c30 c31 c32 c33 : Nat → Int32) : Prop := ∀ x : Nat, x < 2400 → c26 x = a26 x ∧ c27 x = a27 x ∧ c28 x = a28 x ∧ c29 x = a29 x ∧ c30 x = a30 x ∧ c31 x = a31 x ∧ c32 x = a32 x ∧ c33 x = a33 x
theorem BK8.of {a26 a27 a28 a29 a30 a31 a32 a33 c26 c27 c28 c29 c30 c31 c32 c33 : Nat → Int32} (h : LF a26 a27 a31 a32 a33 c26 c27 c31 c32 c33) (h3 : KP3 a28 a29 a30 c28 c29 c30) : BK8 a26 a27 a28 a29 a30 a31 a32 a33 c26 c27 c28 c29 c30 c31 c32 c33 := fun x hx => by
  obtain ⟨h1, h2, h4, h5, h6⟩ := h x hx
  obtain ⟨g1, g2, g3⟩ := h3 x hx
  exact ⟨h1, h2, g1, g2, g3, h4, h5, h6⟩
noncomputable def BKO (r : Nat) (a26 a27 a28 a29 a30 a31 a32 a33 c26 c27 c28 c29 c30 c31 c32 c33 : Nat → Int32) : Prop := ∀ x : Nat, x < 2400 → x < 300 * r ∨ 300 * r + 300 ≤ x → c26 x = a26 x ∧ c27 x = a27 x ∧ c28 x = a28 x ∧ c29 x = a29 x ∧ c30 x = a30 x ∧ c31 x = a31 x ∧ c32 x = a32 x ∧ c33 x = a33 x
theorem BKO.of {a26 a27 a28 a29 a30 a31 a32 a33 c26 c27 c28 c29 c30 c31 c32 c33 l26 l27 l28 l29 l30 l31 l32 l33 : Nat → Int32} (h : BK8 a26 a27 a28 a29 a30 a31 a32 a33 c26 c27 c28 c29 c30 c31 c32 c33) (hC : CP r n b c26 c27 c31 c32 c33 l26 l27 l31 l32 l33) (h28 : CQ r n c28 l28) (h29 : CQ r n c29 l29) (h30 : CQ r n c30 l30) (hn : n ≤ 300) : BKO r a26 a27 a28 a29 a30 a31 a32 a33 l26 l27 l28 l29 l30 l31 l32 l33 := fun x hx ho => by
  obtain ⟨h1, h2, h3, h4, h5, h6, h7, h8⟩ := h x hx
  obtain ⟨g1, g2, g3, g4, g5⟩ := hC.1 x (by omega)
  rw [g1, g2, g3, g4, g5, h28.1 x (by omega), h29.1 x (by omega), h30.1 x (by omega)]
  exact ⟨h1, h2, h3, h4, h5, h6, h7, h8⟩
end BANK
