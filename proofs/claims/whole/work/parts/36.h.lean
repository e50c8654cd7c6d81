noncomputable def clS (w : Int32) (s : AS) : OP := if s.1 12 = 30 ∨ w < 1 ∨ 50 < w then (0, -1, s) else (0, s.1 12 + 1 - 1, (va_up s.1 12 (s.1 12 + 1), va_up s.2 13 (upd (s.2 13) (s.1 12).toNatClampNeg w)))
/-- the cloths that are not made yet -/
noncomputable def FRE (s : AS) : Prop := ∀ k : Nat, (s.1 12).toInt ≤ k → k < 30 → s.2 14 k = 0 ∧ s.2 15 k = 0 ∧ s.2 16 k = -1 ∧ s.2 17 k = 0 ∧ s.2 18 k = 0
section NCS
variable {g : Nat → Nat} {L L' : List Nat} {f f' : Nat → va_E} {x0 wk vs cl ru q : Nat} {va : Nat → Nat} {s : AS} {w : Int32}
theorem SR.nc (h : SR g L f (x0, wk, vs, cl, ru, va) s) (hn : 0 ≤ (s.1 12).toInt ∧ (s.1 12).toInt < 30) (hfr : FRE s) (hE : Ext L f L' f') (hF : Fr [(0, 0), (0, 1), (0, 5), (9, 2), (200, 30)] L f f') (hO : ∀ b ∈ L, sh (f b) = (0, 0, 0) → ∀ j : Nat, rd f' b j = rd f b j) (hq : q ∈ L' ∧ sh (f' q) = (0, 0, 0)) (hra : ra f' cl = va_up (ra f cl) (s.1 12).toNatClampNeg (some q)) (h0 : rd f' q 0 = .int (s.1 12)) (h1 : rd f' q 1 = .int w) (h2 : rd f' q 2 = .int 0) (h3 : rd f' q 3 = .int 0) (h4 : rd f' q 4 = .int 0) (h5 : rd f' q 5 = .int (-1)) (h6 : rd f' q 6 = .int 0) (h7 : rd f' q 7 = .int 0) (hx : rd f' x0 2 = .int (s.1 12 + 1)) : SR g L' f' (x0, wk, vs, cl, ru, va) (va_up s.1 12 (s.1 12 + 1), va_up s.2 13 (upd (s.2 13) (s.1 12).toNatClampNeg w)) := by
  have hc := clamp_i hn.1
  have c1 : (1 : Int32).toInt = 1 := by decide
  have en : (s.1 12 + 1).toInt = (s.1 12).toInt + 1 := by rw [ad_i (by omega) (by omega), c1]
  have hm := h.1.1.1
  have p1 := h.1.fr hE hF (by decide)
  have p2 : f' vs = f vs := hF.2 vs h.1.1.2.2.1.1 1 _ _ h.1.1.2.2.1.2 (by decide)
  have hn2 := h.2.2.2.2.1
  refine ⟨p1, h.2.1.same hE p2 (OF.fr hF (by decide)) rfl (fun i j hj => up_j (by omega)), fun k hk => ?_, h.wn hF (by decide) rfl rfl, ⟨hx, (hF.1 x0 hm.1 9 hm.2 3 (by decide)).trans hn2.2.1, (hF.1 x0 hm.1 9 hm.2 8 (by decide)).trans hn2.2.2⟩, h.rn hF (by decide) (fun j h1 h2 => up_i (by omega))⟩
  have hk : (k : Int) < (s.1 12 + 1).toInt := hk
  show ∃ b : Nat, ra f' cl k = some b ∧ _
  rw [hra]
  by_cases e : k = (s.1 12).toNatClampNeg
  · refine ⟨q, by rw [e]; exact va_up_self _ _ _, ?_⟩
    obtain ⟨z1, z2, z3, z4, z5⟩ := hfr k (by omega) (by omega)
    have e13 : (va_up s.2 13 (upd (s.2 13) (s.1 12).toNatClampNeg w)) 13 k = w := by rw [e]; exact if_pos rfl
    refine ⟨hq, ?_, ?_, ?_, ?_, ?_, ?_, ?_, ?_⟩
    · rw [h0, e]; exact congrArg Value.int (nI_cl hn.1)
    · show rd f' q 1 = .int ((va_up s.2 13 (upd (s.2 13) (s.1 12).toNatClampNeg w)) 13 k)
      rw [e13]; exact h1
    · show rd f' q 2 = .int (s.2 14 k)
      rw [z1]; exact h2
    · show rd f' q 3 = .int (s.2 15 k)
      rw [z2]; exact h3
    · show rd f' q 4 = .int (dyA (s.2 16 k))
      rw [z3]; exact h4
    · show rd f' q 5 = .int (s.2 16 k)
      rw [z3]; exact h5
    · show rd f' q 6 = .int (s.2 17 k)
      rw [z4]; exact h6
    · show rd f' q 7 = .int (s.2 18 k)
      rw [z5]; exact h7
  · obtain ⟨b, g1, g2⟩ := h.2.2.1 k (by omega)
    refine ⟨b, by rw [va_up_ne _ _ e]; exact g1, ?_⟩
    refine (g2.go hE (hO b g2.1.1 g2.1.2)).st (fun j hj1 hj2 => ?_)
    show va_up s.2 13 (upd (s.2 13) (s.1 12).toNatClampNeg w) j k = s.2 j k
    exact up_ne rfl e
end NCS
