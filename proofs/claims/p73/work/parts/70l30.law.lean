/-! ===== the table of the law, 30 ===== -/
noncomputable def tl_30 : List (Nat × ClassFile.Instr × Nat) := [(2256, .iconst 4, 1), (2257, .iadd, 1), (2258, .iaload, 1), (2259, .aload_n 0, 1), (2260, .iload_n 3, 1), (2261, .iconst 5, 1), (2262, .iadd, 1), (2263, .iaload, 1), (2264, .invokevirtual 311, 3), (2267, .if_icmp .eq 5, 3), (2272, .iinc 3 6, 3), (2275, .goto (-2257), 3), (2278, .iconst 1, 1), (2279, .ireturn, 1)]
theorem tl_30_ok : ∀ q ∈ tl_30, decode code q.1 = .ok q.2 := by decide +kernel
