section SBX
variable {p : Program} {l : Launch} {e : Env} {R : Room} {s : State} {m : MethodId} {args : Array Value} {below : List Frame} {meth : Method} {c : Code} {H : Heap} {locs : List Loc} {cells slots : Nat} {Q : State → Prop}
variable {dC : Nat → ClassId} {dI : Nat → Nat → Nat} {sa : Nat → Nat} {A : Nat → Prop} {w rw : va_W} {tys : List (ClassId × FieldType)} {S : Type} {post : Option Value → S → Prop} {wB : S → va_W}
variable {y : MethodName} {bytes cc : ByteArray} {maxL nL mc ms n index : Nat} {ret : Option FieldType} {ws : List Cond} {rm : Room} {Ts : List Cond} {own Cn : String} {b : Addr} {As rest st0 : List Value} {pc : Nat} {ls : Array Slot} {av : List Value}
variable {g : Nat → Nat} {L : List Nat} {f : Nat → va_E} {rs : List (Nat × shp)} {kp : KPost} {px : String → List Nat → (Nat → va_E) → Prop}
theorem N_lastX (hx : p.tables.exec = Jvm.exec) (hb : c.code = cc) {H0 : Heap} (hK : va_K (dC, dI) vwCl tys s) {u : va_W} {ou : Nat} {co : ClassId} {fo : Nat → Int64} (hP : va_P (dC, dI) vwCl (u ++ [(ou, .inl (co, 1, .inr (.inl fo)))]) H) (hD : va_D A (u ++ [(ou, .inl (co, 1, .inr (.inl fo)))])) (hS : va_S A H0 H locs) (t0 : Nat) (ht : tys[t0]? = some (co, .long)) {x : Int64} (hdg : decode cc pc = .ok (.lastore, 1))
    (kk : ∀ (fo' : Nat → Int64), fo' 0 = x → ∀ (H1 : Heap) (locs1 : List Loc), va_P (dC, dI) vwCl (u ++ [(ou, .inl (co, 1, .inr (.inl fo')))]) H1 → va_D A (u ++ [(ou, .inl (co, 1, .inr (.inl fo')))]) → va_S A H0 H1 locs1 → W p l e R s m args below meth c H1 locs1 cells slots Q (F0 m (pc + 1) ls rest)) : W p l e R s m args below meth c H locs cells slots Q (F0 m pc ls (.long x :: .int 0 :: .ref ou :: rest)) := by
  have hat : (u ++ [(ou, (Sum.inl (co, 1, .inr (.inl fo)) : va_E))])[u.length]? = some (ou, .inl (co, 1, .inr (.inl fo))) := by simp
  refine va_last hx hb hK hP hD hS u.length t0 hat ht (i := 0) (by unfold vp_in; decide) hdg fun H1 locs1 h1 h2 h3 => ?_
  rw [List.set_append_right _ _ (Nat.le_refl _), Nat.sub_self] at h1 h2
  exact kk _ (by show vp_updL fo 0 x 0 = x; unfold vp_updL; exact if_pos rfl) H1 locs1 h1 h2 h3
end SBX

















