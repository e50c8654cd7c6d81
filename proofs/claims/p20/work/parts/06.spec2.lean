theorem isLD {c : Int32} (h : isL c = true) : isD c = false := by
  simp only [isL, isD, decide_eq_true_eq, decide_eq_false_iff_not] at h ⊢
  rw [Int32.le_iff_toInt_le, Int32.le_iff_toInt_le] at h ⊢
  have e1 : (97 : Int32).toInt = 97 := by decide
  have e2 : (57 : Int32).toInt = 57 := by decide
  omega
theorem chS_as : ∀ k, k < 19 → ∀ i, i < lenS.getD k 0 → 0 ≤ chS k i ∧ chS k i ≤ 127 := by decide +kernel
theorem mW_ag {tc tm : Nat → Int32} {n p len k : Nat} (h : ∀ x, x < n → agb (tc x) (tm x)) (hp : p + len ≤ n) (hk : k < 19) : mW tc p len k ↔ mW tm p len k := by
  unfold mW
  refine and_congr_right fun hl => ⟨fun g i hi => ?_, fun g i hi => ?_⟩
  · have hc := chS_as k hk i (hl ▸ hi)
    exact ((agb_is (h (p + i) (by omega))).2.2.2.2 _ hc.1 hc.2).mp (g i hi)
  · have hc := chS_as k hk i (hl ▸ hi)
    exact ((agb_is (h (p + i) (by omega))).2.2.2.2 _ hc.1 hc.2).mpr (g i hi)
theorem wF_ag {tc tm : Nat → Int32} {n p len : Nat} {d : Int32} (h : ∀ x, x < n → agb (tc x) (tm x)) (hp : p + len ≤ n) : ∀ ws : List (Nat × Int32), (∀ w ∈ ws, w.1 < 19) → wF tc p len d ws = wF tm p len d ws := by
  intro ws
  induction ws with
  | nil => intro _; rfl
  | cons w r ih =>
    intro hw
    show (if mW tc p len w.1 then w.2 else wF tc p len d r) = (if mW tm p len w.1 then w.2 else wF tm p len d r)
    rw [ih fun v hv => hw v (List.mem_cons_of_mem _ hv)]
    have e := mW_ag h hp (hw w (List.mem_cons_self ..))
    by_cases g : mW tc p len w.1
    · rw [if_pos g, if_pos (e.mp g)]
    · rw [if_neg g, if_neg (fun q => g (e.mpr q))]
section AG
variable {tc tm : Nat → Int32} {n : Nat}
theorem sk_ag (h : ∀ x, x < n → agb (tc x) (tm x)) (p : Nat) : sk tc n p = sk tm n p := re_cong fun x hx => (agb_is (h x hx)).1
theorem le_ag (h : ∀ x, x < n → agb (tc x) (tm x)) (p : Nat) : le_ tc n p = le_ tm n p := re_cong fun x hx => (agb_is (h x hx)).2.1
theorem de_ag (h : ∀ x, x < n → agb (tc x) (tm x)) (p : Nat) : de_ tc n p = de_ tm n p := re_cong fun x hx => (agb_is (h x hx)).2.2.1
theorem nq_ag (h : ∀ x, x < n → agb (tc x) (tm x)) : nq tc n = nq tm n := by
  funext q
  unfold nq nx
  by_cases hq : q < n
  · rw [if_pos hq, if_pos hq, (agb_is (h q hq)).2.1, (agb_is (h q hq)).2.2.1, le_ag h, de_ag h, sk_ag h]
  · rw [if_neg hq, if_neg hq]
theorem isD_eq {c m : Int32} (h : agb c m) (hd : isD c = true) : c = m := by
  rcases h with h | ⟨h1, h2⟩
  · exact h
  · simp only [isD, decide_eq_true_eq] at hd
    rw [Int32.le_iff_toInt_le, Int32.le_iff_toInt_le] at hd
    rw [Int32.lt_iff_toInt_lt] at h1
    have e0 : (0 : Int32).toInt = 0 := by decide
    have e48 : (48 : Int32).toInt = 48 := by decide
    omega
theorem isG_eq {c m : Int32} (h : agb c m) (hd : isG c = true) : c = m := by
  rcases h with h | ⟨h1, h2⟩
  · exact h
  · simp only [isG, decide_eq_true_eq] at hd
    rcases hd with e | e | e | e | e <;> (rw [e] at h1; exact absurd h1 (by decide))
theorem vF_ag {p : Nat} : ∀ k : Nat, (∀ x, p ≤ x → x < p + k → tc x = tm x) → vF tc p k = vF tm p k := by
  intro k
  induction k with
  | zero => intro _; rfl
  | succ k ih =>
    intro h
    show vF tc p k * 10 + tc (p + k) - 48 = vF tm p k * 10 + tm (p + k) - 48
    rw [ih fun x a b => h x a (by omega), h (p + k) (by omega) (by omega)]
theorem Kp_ag (h : ∀ x, x < n → agb (tc x) (tm x)) : Kp tc n = Kp tm n := by
  funext q
  unfold Kp
  by_cases hq : q < n
  · have hl : q ≤ le_ tm n q ∧ le_ tm n q ≤ n := ⟨re_ge, re_le (by omega)⟩
    rw [if_pos hq, if_pos hq, (agb_is (h q hq)).2.1, (agb_is (h q hq)).2.2.1, (agb_is (h q hq)).2.2.2.1, le_ag h, de_ag h]
    have e : wn tc q (le_ tm n q - q) = wn tm q (le_ tm n q - q) := wF_ag h (by omega) tabC (by decide +kernel)
    rw [e]
    by_cases hg : isG (tm q) = true
    · have := isG_eq (h q hq) ((agb_is (h q hq)).2.2.2.1.trans hg)
      rw [this]
    · rw [if_neg hg, if_neg hg]
  · rw [if_neg hq, if_neg hq]
theorem Vp_ag (h : ∀ x, x < n → agb (tc x) (tm x)) : Vp tc n = Vp tm n := by
  funext q
  unfold Vp
  by_cases hq : q < n
  · rw [if_pos hq, if_pos hq, (agb_is (h q hq)).2.1, (agb_is (h q hq)).2.2.1, de_ag h]
    have hl : de_ tm n q ≤ n := re_le (by omega)
    have e : vF tc q (min 4 (de_ tm n q - q)) = vF tm q (min 4 (de_ tm n q - q)) := vF_ag _ fun x h1 h2 => by
      have hx : x < de_ tm n q := by omega
      have hd : isD (tm x) = true := re_all (Q := fun x => isD (tm x)) h1 hx
      exact isD_eq (h x (by omega)) ((agb_is (h x (by omega))).2.2.1.trans hd)
    rw [e]
  · rw [if_neg hq, if_neg hq]
end AG
section TOK
variable {t : Nat → Int32} {n : Nat}
theorem sk_le {p : Nat} (h : p ≤ n) : p ≤ sk t n p ∧ sk t n p ≤ n := ⟨re_ge, re_le h⟩
theorem sk_sk {p : Nat} (h : p ≤ n) : sk t n (sk t n p) = sk t n p := re_again h
theorem nx_le {p : Nat} (h : p < n) : p < nx t n p ∧ nx t n p ≤ n := by
  unfold nx
  by_cases h1 : isL (t p) = true
  · rw [if_pos h1]
    have e : le_ t n p = le_ t n (p + 1) := re_go h h1
    have := re_ge (Q := fun x => isL (t x)) (n := n) (p := p + 1)
    exact ⟨by rw [e]; unfold le_; omega, re_le (by omega)⟩
  · rw [if_neg h1]
    by_cases h2 : isD (t p) = true
    · rw [if_pos h2]
      have e : de_ t n p = de_ t n (p + 1) := re_go h h2
      have := re_ge (Q := fun x => isD (t x)) (n := n) (p := p + 1)
      exact ⟨by rw [e]; unfold de_; omega, re_le (by omega)⟩
    · rw [if_neg h2]; omega
theorem wn_rg (t : Nat → Int32) (p len : Nat) : wn t p len = -3 ∨ 1 ≤ wn t p len ∧ wn t p len ≤ 19 := (wn_cm t p len).2
/-- the signs -/
theorem Kp_sign {q : Nat} {c : Int32} (hc : isG c = true) : Kp t n q = c ↔ q < n ∧ t q = c := by
  have hne : ¬ c = 0 ∧ ¬ c = -1 ∧ ¬ c = -2 ∧ ¬ c = -3 ∧ ¬ (1 ≤ c ∧ c ≤ 19) ∧ isL c = false ∧ isD c = false := by
    simp only [isG, decide_eq_true_eq] at hc
    rcases hc with e | e | e | e | e <;> (subst e; decide)
  unfold Kp
  by_cases hq : q < n
  · rw [if_pos hq]
    by_cases h1 : isL (t q) = true
    · rw [if_pos h1]
      constructor
      · intro e
        rcases wn_rg t q (le_ t n q - q) with g | g
        · exact absurd (e.symm.trans g) hne.2.2.2.1
        · rw [e] at g; exact absurd g hne.2.2.2.2.1
      · rintro ⟨-, e⟩
        rw [e] at h1
        exact absurd (h1.symm.trans hne.2.2.2.2.2.1) (by decide)
    · rw [if_neg h1]
      by_cases h2 : isD (t q) = true
      · rw [if_pos h2]
        constructor
        · intro e
          by_cases h4 : 4 < de_ t n q - q
          · rw [if_pos h4] at e; exact absurd e.symm hne.2.2.1
          · rw [if_neg h4] at e; exact absurd e.symm hne.2.1
        · rintro ⟨-, e⟩
          rw [e] at h2
          exact absurd (h2.symm.trans hne.2.2.2.2.2.2) (by decide)
      · rw [if_neg h2]
        by_cases h3 : isG (t q) = true
        · rw [if_pos h3]; exact ⟨fun e => ⟨hq, e⟩, fun e => e.2⟩
        · rw [if_neg h3]
          exact ⟨fun e => absurd e.symm hne.2.2.2.1, fun e => absurd (e.2 ▸ hc) h3⟩
  · rw [if_neg hq]
    exact ⟨fun e => absurd e.symm hne.1, fun e => absurd e.1 hq⟩
theorem nx_sign {q : Nat} {c : Int32} (hc : isG c = true) (h : t q = c) : nx t n q = q + 1 := by
  have hne : isL c = false ∧ isD c = false := by
    simp only [isG, decide_eq_true_eq] at hc
    rcases hc with e | e | e | e | e <;> (subst e; decide)
  unfold nx
  rw [h, hne.1, hne.2]
  rfl
/-- numbers -/
theorem Kp_num {q : Nat} : (Kp t n q = -1 ∨ Kp t n q = -2) ↔ q < n ∧ isD (t q) = true := by
  unfold Kp
  by_cases hq : q < n
  · rw [if_pos hq]
    by_cases h1 : isL (t q) = true
    · rw [if_pos h1]
      refine ⟨fun e => ?_, fun e => absurd (e.2.symm.trans (isLD h1)) (by decide)⟩
      rcases wn_rg t q (le_ t n q - q) with g | g
      · rw [g] at e; exact absurd e (by decide)
      · rcases e with e | e <;> (rw [e] at g; exact absurd g (by decide))
    · rw [if_neg h1]
      by_cases h2 : isD (t q) = true
      · rw [if_pos h2]
        refine ⟨fun _ => ⟨hq, h2⟩, fun _ => ?_⟩
        by_cases h4 : 4 < de_ t n q - q
        · rw [if_pos h4]; exact Or.inr rfl
        · rw [if_neg h4]; exact Or.inl rfl
      · rw [if_neg h2]
        refine ⟨fun e => ?_, fun e => absurd e.2 h2⟩
        by_cases h3 : isG (t q) = true
        · rw [if_pos h3] at e
          simp only [isG, decide_eq_true_eq] at h3
          rcases e with e | e <;> (rw [e] at h3; exact absurd h3 (by decide))
        · rw [if_neg h3] at e; exact absurd e (by decide)
  · rw [if_neg hq]
    exact ⟨fun e => absurd e (by decide), fun e => absurd e.1 hq⟩
theorem Kp_dig {q : Nat} (hq : q < n) (h2 : isD (t q) = true) : Kp t n q = (if 4 < de_ t n q - q then -2 else -1) ∧ Vp t n q = vF t q (min 4 (de_ t n q - q)) ∧ nx t n q = de_ t n q := by
  have h1 : ¬ isL (t q) = true := fun h => absurd (h2.symm.trans (isLD h)) (by decide)
  unfold Kp Vp nx
  rw [if_pos hq, if_pos hq, if_neg h1, if_neg h1, if_neg h1, if_pos h2, if_pos h2, if_pos h2]
  exact ⟨rfl, rfl, rfl⟩
/-- the reference's word -/
theorem word_cm {q : Nat} : wF t q (le_ t n q - q) (-1) tabM = cm (Kp t n q) := by
  by_cases h : q < n ∧ isL (t q) = true
  · unfold Kp
    rw [if_pos h.1, if_pos h.2]
    exact (wn_cm t q _).1
  · have e : le_ t n q = q := re_stop (Q := fun x => isL (t x)) (by
      by_cases hq : q < n
      · exact Or.inr (by simpa using fun g => h ⟨hq, g⟩)
      · exact Or.inl (by omega))
    rw [e, Nat.sub_self]
    have h0 : wF t q 0 (-1) tabM = -1 := wF_none tabM fun w hw hm => absurd hm.1 ((by decide +kernel : ∀ w ∈ tabM, lenS.getD w.1 0 ≠ 0) w hw)
    rw [h0]
    have hK : Kp t n q = 0 ∨ Kp t n q = -1 ∨ Kp t n q = -2 ∨ Kp t n q = -3 ∨ isG (Kp t n q) = true := by
      unfold Kp
      by_cases hq : q < n
      · rw [if_pos hq, if_neg (fun g => h ⟨hq, g⟩)]
        by_cases h2 : isD (t q) = true
        · rw [if_pos h2]
          by_cases h4 : 4 < de_ t n q - q
          · rw [if_pos h4]; decide
          · rw [if_neg h4]; decide
        · rw [if_neg h2]
          by_cases h3 : isG (t q) = true
          · rw [if_pos h3]; exact Or.inr (Or.inr (Or.inr (Or.inr h3)))
          · rw [if_neg h3]; decide
      · rw [if_neg hq]; exact Or.inl rfl
    rcases hK with e | e | e | e | e
    · rw [e]; decide
    · rw [e]; decide
    · rw [e]; decide
    · rw [e]; decide
    · simp only [isG, decide_eq_true_eq] at e
      rcases e with e | e | e | e | e <;> (rw [e]; decide)
/-- a word that stands here: how long it is -/
theorem word_len {q k : Nat} (hk : k < 19) (h : mW t q (le_ t n q - q) k) : q < n ∧ isL (t q) = true ∧ q + lenS.getD k 0 = nx t n q := by
  have h0 : lenS.getD k 0 ≠ 0 := (by decide +kernel : ∀ k, k < 19 → lenS.getD k 0 ≠ 0) k hk
  have hge : q ≤ le_ t n q := re_ge
  have hL : q < n ∧ isL (t q) = true := by
    by_cases g : q < n ∧ isL (t q) = true
    · exact g
    · have e : le_ t n q = q := re_stop (Q := fun x => isL (t x)) (by
        by_cases hq : q < n
        · exact Or.inr (by simpa using fun g2 => g ⟨hq, g2⟩)
        · exact Or.inl (by omega))
      have := h.1
      omega
  refine ⟨hL.1, hL.2, ?_⟩
  unfold nx
  rw [if_pos hL.2]
  have := h.1
  omega
theorem Kp_0 {q : Nat} : Kp t n q = 0 ↔ n ≤ q := by
  constructor
  · intro e
    rcases Nat.lt_or_ge q n with hq | hq
    · exfalso
      unfold Kp at e
      rw [if_pos hq] at e
      by_cases h1 : isL (t q) = true
      · rw [if_pos h1] at e
        rcases wn_rg t q (le_ t n q - q) with g | g
        · rw [g] at e; exact absurd e (by decide)
        · rw [e] at g; exact absurd g (by decide)
      · rw [if_neg h1] at e
        by_cases h2 : isD (t q) = true
        · rw [if_pos h2] at e
          by_cases h4 : 4 < de_ t n q - q
          · rw [if_pos h4] at e; exact absurd e (by decide)
          · rw [if_neg h4] at e; exact absurd e (by decide)
        · rw [if_neg h2] at e
          by_cases h3 : isG (t q) = true
          · rw [if_pos h3] at e
            rw [e] at h3
            exact absurd h3 (by decide)
          · rw [if_neg h3] at e; exact absurd e (by decide)
    · exact hq
  · intro h
    unfold Kp
    rw [if_neg (by omega)]
end TOK
theorem isL_0 {x : Int32} (h : x < 97) : isL x = false := by
  simp only [isL, decide_eq_false_iff_not]
  intro h2
  have h1 := h2.1
  rw [Int32.lt_iff_toInt_lt] at h; rw [Int32.le_iff_toInt_le] at h1; omega
theorem isL_1 {x : Int32} (h : 122 < x) : isL x = false := by
  simp only [isL, decide_eq_false_iff_not]
  intro h2
  have h1 := h2.2
  rw [Int32.lt_iff_toInt_lt] at h; rw [Int32.le_iff_toInt_le] at h1; omega
theorem isL_2 {x : Int32} (h : ¬ x < 97) (h' : ¬ 122 < x) : isL x = true := by
  simp only [isL, decide_eq_true_eq]
  rw [Int32.lt_iff_toInt_lt] at h h'; rw [Int32.le_iff_toInt_le, Int32.le_iff_toInt_le]; omega
theorem isD_0 {x : Int32} (h : x < 48) : isD x = false := by
  simp only [isD, decide_eq_false_iff_not]
  intro h2
  have h1 := h2.1
  rw [Int32.lt_iff_toInt_lt] at h; rw [Int32.le_iff_toInt_le] at h1; omega
theorem isD_1 {x : Int32} (h : 57 < x) : isD x = false := by
  simp only [isD, decide_eq_false_iff_not]
  intro h2
  have h1 := h2.2
  rw [Int32.lt_iff_toInt_lt] at h; rw [Int32.le_iff_toInt_le] at h1; omega
theorem isD_2 {x : Int32} (h : ¬ x < 48) (h' : ¬ 57 < x) : isD x = true := by
  simp only [isD, decide_eq_true_eq]
  rw [Int32.lt_iff_toInt_lt] at h h'; rw [Int32.le_iff_toInt_le, Int32.le_iff_toInt_le]; omega
