theorem dL_law_938 : decode cL_law 938 = .ok (.iinc 4 6, 3) := dec_ok (by decide +kernel)
theorem dL_law_941 : decode cL_law 941 = .ok (.goto (-918), 3) := dec_ok (by decide +kernel)
