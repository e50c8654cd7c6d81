section SOP
variable {g : Nat → Nat} {L L' : List Nat} {f f' : Nat → va_E} {x0 wk vs cl ru b c k v : Nat} {va : Nat → Nat} {s s' : AS} {cs : List (Nat × Nat)} {m n : Int32}
theorem up_ne {a a0 : Nat → Nat → Int32} {i j : Nat} {x : Int32} (h : a j k = a0 j k) (hk : k ≠ v) : va_up a i (upd (a0 i) v x) j k = a0 j k := by
  unfold va_up
  split
  · rename_i e
    subst e
    exact if_neg hk
  · exact h
theorem up_j {a : Nat → Nat → Int32} {i j : Nat} {x : Nat → Int32} (h : j ≠ i) : va_up a i x j k = a j k := by rw [va_up_ne _ _ h]
theorem up_i {a : Nat → Int32} {i j : Nat} {x : Int32} (h : j ≠ i) : va_up a i x j = a j := va_up_ne _ _ h
/-- a vat is another -/
theorem SR.vat1 (h : SR g L f (x0, wk, vs, cl, ru, va) s) (hk : k < 6) (hE : Ext L f L' f') (hF : Fr cs L f f') (hc : ∀ c ∈ cs, c.1 = 7) (hO : OF 7 [va k] L f f') (hv : VR L' f' (va k) k s') (e1 : s'.1 = s.1) (e : ∀ i : Nat, i ≠ k → ∀ j : Nat, j < 12 → s'.2 j i = s.2 j i) (e2 : ∀ i : Nat, ∀ j : Nat, 13 ≤ j → j < 19 → s'.2 j i = s.2 j i) : SR g L' f' (x0, wk, vs, cl, ru, va) s' := by
  have n : ∀ c : Nat × Nat, c.1 ≠ 7 → c ∉ cs := fun c h1 h2 => h1 (hc c h2)
  have n9 : ∀ l : List (Nat × Nat), (∀ c ∈ l, c.1 ≠ 7) → ∀ c ∈ l, c ∉ cs := fun l h1 c h2 => n c (h1 c h2)
  obtain ⟨p1, p2, p3⟩ := h.parts hE hF (n9 _ (by decide)) (n9 _ (by decide))
  exact ⟨p1, h.2.1.one hE p2 hO hv hk (by rw [e1]) e, h.2.2.1.same hE p3 (OF.fr hF (fun c hm => by rw [hc c hm]; decide)) (by rw [e1]) e2, h.wn hF (n9 _ (by decide)) (by rw [e1]) (by rw [e1]), h.hn hF (n9 _ (by decide)) (by rw [e1]) (by rw [e1]) (by rw [e1]), h.rn hF (n9 _ (by decide)) (fun _ _ _ => by rw [e1])⟩
/-- a cloth and the drain are others -/
theorem SR.cl1 (h : SR g L f (x0, wk, vs, cl, ru, va) s) (hn : (s.1 12).toInt ≤ 30) (hcn : (c : Int) < (s.1 12).toInt) (hb : ra f cl c = some b) (hE : Ext L f L' f') (hF : Fr cs L f f') (hc : ∀ c ∈ cs, c.1 = 0 ∨ c = (8, 2)) (hO : OF 0 [b] L f f') (hv : CR L' f' b c s') (hw : rd f' wk 2 = .int (s'.1 2)) (e1 : ∀ j : Nat, j ≠ 2 → s'.1 j = s.1 j) (e : ∀ i : Nat, i ≠ c → ∀ j : Nat, 13 ≤ j → j < 19 → s'.2 j i = s.2 j i) (e2 : ∀ i : Nat, ∀ j : Nat, j < 12 → s'.2 j i = s.2 j i) : SR g L' f' (x0, wk, vs, cl, ru, va) s' := by
  have n9 : ∀ l : List (Nat × Nat), (∀ c ∈ l, c.1 ≠ 0 ∧ c ≠ (8, 2)) → ∀ c ∈ l, c ∉ cs := fun l h1 c h2 h3 => (hc c h3).elim (h1 c h2).1 (h1 c h2).2
  obtain ⟨p1, p2, p3⟩ := h.parts hE hF (n9 _ (by decide)) (n9 _ (by decide))
  have hm := h.1.1.2.1
  exact ⟨p1, h.2.1.same hE p2 (OF.fr hF (fun c hm => by rcases hc c hm with e | e <;> rw [e] <;> decide)) (e1 1 (by decide)) e2, h.2.2.1.one hn hE p3 hcn hb hO hv (e1 12 (by decide)) e, ⟨by rw [e1 1 (by decide)]; exact (hF.1 wk hm.1 8 hm.2 1 (n9 [(8, 1)] (by decide) _ (by decide))).trans h.2.2.2.1.1, hw⟩, h.hn hF (n9 _ (by decide)) (e1 12 (by decide)) (e1 3 (by decide)) (e1 37 (by decide)), h.rn hF (n9 _ (by decide)) (fun j h1 h2 => e1 j (by omega))⟩
/-- a vat and a cloth are others -/
theorem SR.vc1 (h : SR g L f (x0, wk, vs, cl, ru, va) s) (hn : (s.1 12).toInt ≤ 30) (hk : k < 6) (hcn : (c : Int) < (s.1 12).toInt) (hb : ra f cl c = some b) (hE : Ext L f L' f') (hF : Fr cs L f f') (hc : ∀ c ∈ cs, c.1 = 0 ∨ c.1 = 7) (hO : OF 0 [b] L f f') (hO7 : OF 7 [va k] L f f') (hv : CR L' f' b c s') (hv7 : VR L' f' (va k) k s') (e1 : s'.1 = s.1) (e : ∀ i : Nat, i ≠ c → ∀ j : Nat, 13 ≤ j → j < 19 → s'.2 j i = s.2 j i) (e2 : ∀ i : Nat, i ≠ k → ∀ j : Nat, j < 12 → s'.2 j i = s.2 j i) : SR g L' f' (x0, wk, vs, cl, ru, va) s' := by
  have n9 : ∀ l : List (Nat × Nat), (∀ c ∈ l, c.1 ≠ 0 ∧ c.1 ≠ 7) → ∀ c ∈ l, c ∉ cs := fun l h1 c h2 h3 => (hc c h3).elim (h1 c h2).1 (h1 c h2).2
  obtain ⟨p1, p2, p3⟩ := h.parts hE hF (n9 _ (by decide)) (n9 _ (by decide))
  exact ⟨p1, h.2.1.one hE p2 hO7 hv7 hk (by rw [e1]) e2, h.2.2.1.one hn hE p3 hcn hb hO hv (by rw [e1]) e, h.wn hF (n9 _ (by decide)) (by rw [e1]) (by rw [e1]), h.hn hF (n9 _ (by decide)) (by rw [e1]) (by rw [e1]) (by rw [e1]), h.rn hF (n9 _ (by decide)) (fun _ _ _ => by rw [e1])⟩
theorem SR.fe (h : SR g L f (x0, wk, vs, cl, ru, va) s) (hk : k < 6) (hb : b = va k) (hE : Ext L f L' f') (hF : Fr [(7, 2), (7, 4)] L f f') (h2 : rd f' b 2 = .int (tfF (s.2 5 k) n)) (h4 : rd f' b 4 = .int (tfS (s.2 5 k) (s.2 7 k) n)) (hO : OF 7 [b] L f f') : SR g L' f' (x0, wk, vs, cl, ru, va) (feA s k n) := by
  subst hb
  obtain ⟨q0, g0, g1, g2, g3, g4, g5, g6, ld, g7, g8⟩ := (h.2.1 k hk).2
  have q : ∀ j : Nat, (7, j) ∉ [(7, 2), (7, 4)] → rd f' (va k) j = rd f (va k) j := fun j hj => hF.1 _ q0.1 7 q0.2 j hj
  refine h.vat1 hk hE hF (by decide) hO ⟨mem_ext q0 hE, (q 0 (by decide)).trans g0, (q 1 (by decide)).trans g1, ?_, (q 3 (by decide)).trans g3, ?_, (q 5 (by decide)).trans g5, (q 6 (by decide)).trans g6, ld, (q 7 (by decide)).trans g7, g8⟩ rfl (fun i hi j hj => up_ne (up_ne rfl hi) hi) (fun i j h1 h2 => (up_j (by omega)).trans (up_j (by omega)))
  · rw [show (feA s k n).2 5 k = tfF (s.2 5 k) n from if_pos rfl]; exact h2
  · rw [show (feA s k n).2 7 k = tfS (s.2 5 k) (s.2 7 k) n from if_pos rfl]; exact h4
theorem SR.lm (h : SR g L f (x0, wk, vs, cl, ru, va) s) (hk : k < 6) (hb : b = va k) (hE : Ext L f L' f') (hF : Fr [(7, 2), (7, 3), (7, 4)] L f f') (h2 : rd f' b 2 = .int (s.2 5 k / 2)) (h3 : rd f' b 3 = .int (liM (s.2 7 k) (s.2 6 k))) (h4 : rd f' b 4 = .int (liS (s.2 7 k) (s.2 5 k))) (hO : OF 7 [b] L f f') : SR g L' f' (x0, wk, vs, cl, ru, va) (lmA s k) := by
  subst hb
  obtain ⟨q0, g0, g1, g2, g3, g4, g5, g6, ld, g7, g8⟩ := (h.2.1 k hk).2
  have q : ∀ j : Nat, (7, j) ∉ [(7, 2), (7, 3), (7, 4)] → rd f' (va k) j = rd f (va k) j := fun j hj => hF.1 _ q0.1 7 q0.2 j hj
  refine h.vat1 hk hE hF (by decide) hO ⟨mem_ext q0 hE, (q 0 (by decide)).trans g0, (q 1 (by decide)).trans g1, ?_, ?_, ?_, (q 5 (by decide)).trans g5, (q 6 (by decide)).trans g6, ld, (q 7 (by decide)).trans g7, g8⟩ rfl (fun i hi j hj => up_ne (up_ne (up_ne rfl hi) hi) hi) (fun i j h1 h2 => ((up_j (by omega)).trans (up_j (by omega))).trans (up_j (by omega)))
  · rw [show (lmA s k).2 5 k = s.2 5 k / 2 from if_pos rfl]; exact h2
  · rw [show (lmA s k).2 6 k = liM (s.2 7 k) (s.2 6 k) from if_pos rfl]; exact h3
  · rw [show (lmA s k).2 7 k = liS (s.2 7 k) (s.2 5 k) from if_pos rfl]; exact h4
theorem SR.ai (h : SR g L f (x0, wk, vs, cl, ru, va) s) (hn : (s.1 12).toInt ≤ 30) (hcn : (c : Int) < (s.1 12).toInt) (hb : ra f cl c = some b) (hE : Ext L f L' f') (hF : Fr [(0, 2), (0, 3), (8, 2)] L f f') (h2 : rd f' b 2 = .int 0) (h3 : rd f' b 3 = .int (s.2 15 c + (s.2 14 c - s.2 14 c / 8))) (hd : rd f' wk 2 = .int (s.1 2 + s.2 14 c / 8)) (hO : OF 0 [b] L f f') : SR g L' f' (x0, wk, vs, cl, ru, va) (aiA s c) := by
  obtain ⟨b2, e2, q0, g0, g1, g2, g3, g4, g5, g6, g7⟩ := h.2.2.1 c hcn
  cases e2.symm.trans hb
  have q : ∀ j : Nat, (0, j) ∉ [(0, 2), (0, 3), (8, 2)] → rd f' b j = rd f b j := fun j hj => hF.1 _ q0.1 0 q0.2 j hj
  refine h.cl1 hn hcn hb hE hF (by decide) hO ⟨mem_ext q0 hE, (q 0 (by decide)).trans g0, (q 1 (by decide)).trans g1, ?_, ?_, (q 4 (by decide)).trans g4, (q 5 (by decide)).trans g5, (q 6 (by decide)).trans g6, (q 7 (by decide)).trans g7⟩ hd (fun j hj => up_i hj) (fun i hi j h1 h2 => up_ne (up_ne rfl hi) hi) (fun i j hj => (up_j (by omega)).trans (up_j (by omega)))
  · rw [show (aiA s c).2 14 c = 0 from if_pos rfl]; exact h2
  · rw [show (aiA s c).2 15 c = s.2 15 c + (s.2 14 c - s.2 14 c / 8) from if_pos rfl]; exact h3
theorem SR.wa (h : SR g L f (x0, wk, vs, cl, ru, va) s) (hn : (s.1 12).toInt ≤ 30) (hcn : (c : Int) < (s.1 12).toInt) (hb : ra f cl c = some b) (hE : Ext L f L' f') (hF : Fr [(0, 2), (0, 3), (8, 2)] L f f') (h2 : rd f' b 2 = .int 0) (h3 : rd f' b 3 = .int (s.2 15 c - s.2 15 c / 20)) (hd : rd f' wk 2 = .int (s.1 2 + (s.2 14 c + s.2 15 c / 20))) (hO : OF 0 [b] L f f') : SR g L' f' (x0, wk, vs, cl, ru, va) (waA s c) := by
  obtain ⟨b2, e2, q0, g0, g1, g2, g3, g4, g5, g6, g7⟩ := h.2.2.1 c hcn
  cases e2.symm.trans hb
  have q : ∀ j : Nat, (0, j) ∉ [(0, 2), (0, 3), (8, 2)] → rd f' b j = rd f b j := fun j hj => hF.1 _ q0.1 0 q0.2 j hj
  refine h.cl1 hn hcn hb hE hF (by decide) hO ⟨mem_ext q0 hE, (q 0 (by decide)).trans g0, (q 1 (by decide)).trans g1, ?_, ?_, (q 4 (by decide)).trans g4, (q 5 (by decide)).trans g5, (q 6 (by decide)).trans g6, (q 7 (by decide)).trans g7⟩ hd (fun j hj => up_i hj) (fun i hi j h1 h2 => up_ne (up_ne rfl hi) hi) (fun i j hj => (up_j (by omega)).trans (up_j (by omega)))
  · rw [show (waA s c).2 14 c = 0 from if_pos rfl]; exact h2
  · rw [show (waA s c).2 15 c = s.2 15 c - s.2 15 c / 20 from if_pos rfl]; exact h3
/-- dried: its day is now -/
theorem SR.dy (h : SR g L f (x0, wk, vs, cl, ru, va) s) (hn : (s.1 12).toInt ≤ 30) (hcn : (c : Int) < (s.1 12).toInt) (hb : ra f cl c = some b) (hE : Ext L f L' f') (hF : Fr [(0, 2), (0, 3), (0, 4), (0, 5), (8, 2)] L f f') (h2 : rd f' b 2 = .int 0) (h3 : rd f' b 3 = .int (s.2 15 c + (s.2 14 c - s.2 14 c / 8))) (h4 : rd f' b 4 = .int 1) (h5 : rd f' b 5 = .int (s.1 1 / 24)) (h24 : ¬ s.1 1 / 24 = -1) (hd : rd f' wk 2 = .int (s.1 2 + s.2 14 c / 8)) (hO : OF 0 [b] L f f') : SR g L' f' (x0, wk, vs, cl, ru, va) (dyS s c) := by
  obtain ⟨b2, e2, q0, g0, g1, g2, g3, g4, g5, g6, g7⟩ := h.2.2.1 c hcn
  cases e2.symm.trans hb
  have q : ∀ j : Nat, (0, j) ∉ [(0, 2), (0, 3), (0, 4), (0, 5), (8, 2)] → rd f' b j = rd f b j := fun j hj => hF.1 _ q0.1 0 q0.2 j hj
  have e16 : (dyS s c).2 16 c = s.1 1 / 24 := if_pos rfl
  refine h.cl1 hn hcn hb hE hF (by decide) hO ⟨mem_ext q0 hE, (q 0 (by decide)).trans g0, (q 1 (by decide)).trans g1, ?_, ?_, ?_, ?_, (q 6 (by decide)).trans g6, (q 7 (by decide)).trans g7⟩ hd (fun j hj => up_i hj) (fun i hi j h1 h2 => up_ne (up_ne (up_ne rfl hi) hi) hi) (fun i j hj => ((up_j (by omega)).trans (up_j (by omega))).trans (up_j (by omega)))
  · rw [show (dyS s c).2 14 c = 0 from if_pos rfl]; exact h2
  · rw [show (dyS s c).2 15 c = s.2 15 c + (s.2 14 c - s.2 14 c / 8) from if_pos rfl]; exact h3
  · rw [e16]; unfold dyA; rw [if_neg h24]; exact h4
  · rw [e16]; exact h5
/-- the hour of a dip is marked -/
theorem LD.dip {ld h d w : Int32} (hl : LD ld h d w) : LD h h 1 w := by
  have e1 : -2 ≤ h.toInt := by have := hl.1; have := hl.2.1; omega
  exact ⟨e1, Int.le_refl _, Or.inr rfl, hl.2.2.2.1, ⟨fun _ => rfl, fun _ => rfl⟩, ⟨fun _ => by omega, fun _ => Or.inl rfl⟩⟩
theorem SR.di (h : SR g L f (x0, wk, vs, cl, ru, va) s) (hn : (s.1 12).toInt ≤ 30) (hk : k < 6) (hcn : (c : Int) < (s.1 12).toInt) (hb : ra f cl c = some b) (hv : v = va k) (hE : Ext L f L' f') (hF : Fr [(7, 1), (7, 2), (7, 3), (7, 4), (7, 5), (7, 6), (7, 7), (0, 2), (0, 6), (0, 7)] L f f') (h1 : rd f' v 1 = .int (s.2 4 k - n)) (h2 : rd f' v 2 = .int (skF (s.2 5 k) m)) (h3 : rd f' v 3 = .int (s.2 6 k + m)) (h4 : rd f' v 4 = .int (skS (s.2 6 k) (s.2 5 k) (s.2 7 k) m)) (h5 : rd f' v 5 = .int (s.2 8 k + 1)) (h6 : rd f' v 6 = .int (s.2 9 k ||| (1 <<< (nI c &&& 31)))) (h7 : rd f' v 7 = .int (s.1 1)) (c2 : rd f' b 2 = .int (s.2 14 c + n)) (c6 : rd f' b 6 = .int (s.2 17 c ||| (1 <<< (nI k &&& 31)))) (c7 : rd f' b 7 = .int (s.2 18 c + 1)) (hO : OF 0 [b] L f f') (hO7 : OF 7 [v] L f f') : SR g L' f' (x0, wk, vs, cl, ru, va) (diA s c k m n) := by
  subst hv
  obtain ⟨b2, e2, w0, w1, w2, w3, w4, w5, w6, w7, w8⟩ := h.2.2.1 c hcn
  cases e2.symm.trans hb
  obtain ⟨q0, g0, g1, g2, g3, g4, g5, g6, ld, g7, g8⟩ := (h.2.1 k hk).2
  have q : ∀ j : Nat, (0, j) ∉ [(7, 1), (7, 2), (7, 3), (7, 4), (7, 5), (7, 6), (7, 7), (0, 2), (0, 6), (0, 7)] → rd f' b j = rd f b j := fun j hj => hF.1 _ w0.1 0 w0.2 j hj
  refine h.vc1 hn hk hcn hb hE hF (by decide) hO hO7 ⟨mem_ext w0 hE, (q 0 (by decide)).trans w1, (q 1 (by decide)).trans w2, ?_, (q 3 (by decide)).trans w4, (q 4 (by decide)).trans w5, (q 5 (by decide)).trans w6, ?_, ?_⟩ ⟨mem_ext q0 hE, (hF.1 _ q0.1 7 q0.2 0 (by decide)).trans g0, ?_, ?_, ?_, ?_, ?_, ?_, s.1 1, h7, ?_⟩ rfl (fun i hi j h1 h2 => ?_) (fun i hi j hj => ?_)
  · rw [show (diA s c k m n).2 14 c = s.2 14 c + n from if_pos rfl]; exact c2
  · rw [show (diA s c k m n).2 17 c = s.2 17 c ||| (1 <<< (nI k &&& 31)) from if_pos rfl]; exact c6
  · rw [show (diA s c k m n).2 18 c = s.2 18 c + 1 from if_pos rfl]; exact c7
  · rw [show (diA s c k m n).2 4 k = s.2 4 k - n from if_pos rfl]; exact h1
  · rw [show (diA s c k m n).2 5 k = skF (s.2 5 k) m from if_pos rfl]; exact h2
  · rw [show (diA s c k m n).2 6 k = s.2 6 k + m from if_pos rfl]; exact h3
  · rw [show (diA s c k m n).2 7 k = skS (s.2 6 k) (s.2 5 k) (s.2 7 k) m from if_pos rfl]; exact h4
  · rw [show (diA s c k m n).2 8 k = s.2 8 k + 1 from if_pos rfl]; exact h5
  · rw [show (diA s c k m n).2 9 k = s.2 9 k ||| (1 <<< (nI c &&& 31)) from if_pos rfl]; exact h6
  · rw [show (diA s c k m n).2 10 k = 1 from if_pos rfl]; exact g8.dip
  · exact up_ne (up_ne (up_ne ((up_j (by omega)).trans ((up_j (by omega)).trans ((up_j (by omega)).trans ((up_j (by omega)).trans ((up_j (by omega)).trans ((up_j (by omega)).trans (up_j (by omega)))))))) hi) hi) hi
  · exact (up_j (by omega)).trans ((up_j (by omega)).trans ((up_j (by omega)).trans (up_ne (up_ne (up_ne (up_ne (up_ne (up_ne (up_ne rfl hi) hi) hi) hi) hi) hi) hi)))
/-- a number of the runner is another -/
theorem SR.rn1 (h : SR g L f (x0, wk, vs, cl, ru, va) s) (hE : Ext L f L' f') (hF : Fr cs L f f') (hc : ∀ c ∈ cs, c.1 = 4 ∧ c.2 ≠ 0) (hr : RN f' ru s') (e1 : ∀ j : Nat, ¬ (39 ≤ j ∧ j < 46) → s'.1 j = s.1 j) (e2 : s'.2 = s.2) : SR g L' f' (x0, wk, vs, cl, ru, va) s' := by
  have n9 : ∀ l : List (Nat × Nat), (∀ c ∈ l, ¬ (c.1 = 4 ∧ c.2 ≠ 0)) → ∀ c ∈ l, c ∉ cs := fun l h1 c h2 h3 => h1 c h2 (hc c h3)
  obtain ⟨p1, p2, p3⟩ := h.parts hE hF (n9 _ (by decide)) (n9 _ (by decide))
  exact ⟨p1, h.2.1.same hE p2 (OF.fr hF (fun c hm => by rw [(hc c hm).1]; decide)) (e1 1 (by decide)) (fun _ _ _ => by rw [e2]), h.2.2.1.same hE p3 (OF.fr hF (fun c hm => by rw [(hc c hm).1]; decide)) (e1 12 (by decide)) (fun _ _ _ _ => by rw [e2]), h.wn hF (n9 _ (by decide)) (e1 1 (by decide)) (e1 2 (by decide)), h.hn hF (n9 _ (by decide)) (e1 12 (by decide)) (e1 3 (by decide)) (e1 37 (by decide)), hr⟩
theorem SR.co (h : SR g L f (x0, wk, vs, cl, ru, va) s) (hE : Ext L f L' f') (hF : Fr [(4, 4)] L f f') (h4 : rd f' ru 4 = .int (s.1 40 + 1)) : SR g L' f' (x0, wk, vs, cl, ru, va) (coA s) := by
  obtain ⟨r1, r2, r3, r4, r5, r6, r7⟩ := h.2.2.2.2.2
  have hm := h.1.1.2.2.2.2
  have q : ∀ j : Nat, (4, j) ∉ [(4, 4)] → rd f' ru j = rd f ru j := fun j hj => hF.1 _ hm.1 4 hm.2 j hj
  exact h.rn1 hE hF (by decide) ⟨(q 1 (by decide)).trans r1, (q 2 (by decide)).trans r2, (q 3 (by decide)).trans r3, h4, (q 5 (by decide)).trans r5, (q 6 (by decide)).trans r6, (q 7 (by decide)).trans r7⟩ (fun j hj => up_i (by omega)) rfl
end SOP
