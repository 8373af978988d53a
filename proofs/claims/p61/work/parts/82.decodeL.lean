theorem dL_law_2028 : decode cL_law 2028 = .ok (.iinc 3 6, 3) := dq_132 bk_2007 21 rfl rfl (by decide)
theorem dL_law_2031 : decode cL_law 2031 = .ok (.goto (-2013), 3) := dq_167 bk_2007 24 rfl (by decide)
theorem dL_law_2034 : decode cL_law 2034 = .ok (.iconst 1, 1) := dk_4 (blk_at bk_2007 27 rfl)
theorem dL_law_2035 : decode cL_law 2035 = .ok (.ireturn, 1) := dk_172 (blk_at bk_2007 28 rfl)
