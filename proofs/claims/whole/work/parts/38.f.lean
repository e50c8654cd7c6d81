section PLS
variable {s s' : AS} {m k c : Nat} {x : Int32} {u u' : Int32 × AS}
theorem EvR.st (e : s = s') (h : EvR m x k c s u) : EvR m x k c s' u := e ▸ h
theorem EvR.ou (e : u = u') (h : EvR m x k c s u) : EvR m x k c s u' := e ▸ h
theorem BR.st (e : s = s') (h : BR k c s u) : BR k c s' u := e ▸ h
theorem BR.ou (e : u = u') (h : BR k c s u) : BR k c s u' := e ▸ h
theorem FK.pl : FK s (plA s k c).2 := by
  unfold plA
  split
  · exact FK.dp
  split
  · unfold arR; split
    · exact FK.rf
    · exact FK.ai
  split
  · exact FK.wa
  split
  · exact FK.re _ _
  split
  · exact FK.fe
  split
  · unfold lmR; split
    · exact FK.lm
    · exact FK.rf
  exact FK.rf
end PLS



