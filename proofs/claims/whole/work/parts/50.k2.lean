theorem dL_law_550 : decode cL_law 550 = .ok (.goto 836, 3) := dec_ok (by decide +kernel)
