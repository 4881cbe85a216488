def TTX (c : Nat) : u_T := (clsX.getD c (RX9, TX9, 75)).2.1
def fdP (k : Nat) (q : Nat × Nat × Nat) : Prop := (q.2.1 < 10 → Cond.fieldLink (cn k) q.1 (TTX q.2.1 q.2.2).1 (TTX q.2.1 q.2.2).2.1 (TTX q.2.1 q.2.2).2.2.1 ∈ tbX) ∧ (q.2.1 = 13 → k = 13 ∧ (q.2.2 = 0 → Cond.fieldLink "java/lang/String" q.1 "java/lang/String" "value" "[B" ∈ tbX) ∧ (¬ q.2.2 = 0 → Cond.fieldLink "java/lang/String" q.1 "java/lang/String" "coder" "B" ∈ tbX))
theorem fd_0 : ∀ q ∈ fdt0, fdP 0 q := List.forall_mem_cons.mpr ⟨⟨fun _ => t_212, fun h => absurd h (by show ¬ 0 = 13; decide)⟩, List.forall_mem_cons.mpr ⟨⟨fun _ => t_214, fun h => absurd h (by show ¬ 0 = 13; decide)⟩, List.forall_mem_cons.mpr ⟨⟨fun _ => t_274, fun h => absurd h (by show ¬ 5 = 13; decide)⟩, List.forall_mem_cons.mpr ⟨⟨fun _ => t_279, fun h => absurd h (by show ¬ 5 = 13; decide)⟩, List.forall_mem_cons.mpr ⟨⟨fun _ => t_199, fun h => absurd h (by show ¬ 7 = 13; decide)⟩, List.forall_mem_cons.mpr ⟨⟨fun _ => t_283, fun h => absurd h (by show ¬ 5 = 13; decide)⟩, List.forall_mem_cons.mpr ⟨⟨fun _ => t_291, fun h => absurd h (by show ¬ 5 = 13; decide)⟩, fun _ h => absurd h List.not_mem_nil⟩⟩⟩⟩⟩⟩⟩
theorem fd_1 : ∀ q ∈ fdt1, fdP 1 q := List.forall_mem_cons.mpr ⟨⟨fun _ => t_226, fun h => absurd h (by show ¬ 1 = 13; decide)⟩, List.forall_mem_cons.mpr ⟨⟨fun _ => t_228, fun h => absurd h (by show ¬ 1 = 13; decide)⟩, List.forall_mem_cons.mpr ⟨⟨fun _ => t_230, fun h => absurd h (by show ¬ 1 = 13; decide)⟩, List.forall_mem_cons.mpr ⟨⟨fun _ => t_232, fun h => absurd h (by show ¬ 1 = 13; decide)⟩, fun _ h => absurd h List.not_mem_nil⟩⟩⟩⟩
theorem fd_2 : ∀ q ∈ fdt2, fdP 2 q := List.forall_mem_cons.mpr ⟨⟨fun _ => t_167, fun h => absurd h (by show ¬ 2 = 13; decide)⟩, List.forall_mem_cons.mpr ⟨⟨fun _ => t_169, fun h => absurd h (by show ¬ 2 = 13; decide)⟩, List.forall_mem_cons.mpr ⟨⟨fun _ => t_171, fun h => absurd h (by show ¬ 2 = 13; decide)⟩, List.forall_mem_cons.mpr ⟨⟨fun _ => t_172, fun h => absurd h (by show ¬ 2 = 13; decide)⟩, List.forall_mem_cons.mpr ⟨⟨fun _ => t_174, fun h => absurd h (by show ¬ 2 = 13; decide)⟩, List.forall_mem_cons.mpr ⟨⟨fun _ => t_173, fun h => absurd h (by show ¬ 2 = 13; decide)⟩, fun _ h => absurd h List.not_mem_nil⟩⟩⟩⟩⟩⟩
theorem fd_3 : ∀ q ∈ fdt3, fdP 3 q := List.forall_mem_cons.mpr ⟨⟨fun _ => t_254, fun h => absurd h (by show ¬ 3 = 13; decide)⟩, List.forall_mem_cons.mpr ⟨⟨fun _ => t_255, fun h => absurd h (by show ¬ 3 = 13; decide)⟩, List.forall_mem_cons.mpr ⟨⟨fun _ => t_256, fun h => absurd h (by show ¬ 3 = 13; decide)⟩, List.forall_mem_cons.mpr ⟨⟨fun _ => t_257, fun h => absurd h (by show ¬ 3 = 13; decide)⟩, List.forall_mem_cons.mpr ⟨⟨fun _ => t_259, fun h => absurd h (by show ¬ 3 = 13; decide)⟩, fun _ h => absurd h List.not_mem_nil⟩⟩⟩⟩⟩
theorem fd_4 : ∀ q ∈ fdt4, fdP 4 q := List.forall_mem_cons.mpr ⟨⟨fun _ => t_121, fun h => absurd h (by show ¬ 4 = 13; decide)⟩, List.forall_mem_cons.mpr ⟨⟨fun _ => t_122, fun h => absurd h (by show ¬ 4 = 13; decide)⟩, List.forall_mem_cons.mpr ⟨⟨fun _ => t_123, fun h => absurd h (by show ¬ 4 = 13; decide)⟩, List.forall_mem_cons.mpr ⟨⟨fun _ => t_124, fun h => absurd h (by show ¬ 4 = 13; decide)⟩, List.forall_mem_cons.mpr ⟨⟨fun _ => t_130, fun h => absurd h (by show ¬ 4 = 13; decide)⟩, List.forall_mem_cons.mpr ⟨⟨fun _ => t_120, fun h => absurd h (by show ¬ 4 = 13; decide)⟩, List.forall_mem_cons.mpr ⟨⟨fun _ => t_127, fun h => absurd h (by show ¬ 4 = 13; decide)⟩, List.forall_mem_cons.mpr ⟨⟨fun _ => t_126, fun h => absurd h (by show ¬ 4 = 13; decide)⟩, List.forall_mem_cons.mpr ⟨⟨fun _ => t_128, fun h => absurd h (by show ¬ 4 = 13; decide)⟩, List.forall_mem_cons.mpr ⟨⟨fun _ => t_129, fun h => absurd h (by show ¬ 4 = 13; decide)⟩, List.forall_mem_cons.mpr ⟨⟨fun _ => t_132, fun h => absurd h (by show ¬ 4 = 13; decide)⟩, List.forall_mem_cons.mpr ⟨⟨fun _ => t_133, fun h => absurd h (by show ¬ 4 = 13; decide)⟩, List.forall_mem_cons.mpr ⟨⟨fun _ => t_337, fun h => absurd h (by show ¬ 5 = 13; decide)⟩, List.forall_mem_cons.mpr ⟨⟨fun _ => t_322, fun h => absurd h (by show ¬ 5 = 13; decide)⟩, List.forall_mem_cons.mpr ⟨⟨fun _ => t_275, fun h => absurd h (by show ¬ 5 = 13; decide)⟩, List.forall_mem_cons.mpr ⟨⟨fun _ => t_280, fun h => absurd h (by show ¬ 5 = 13; decide)⟩, List.forall_mem_cons.mpr ⟨⟨fun _ => t_285, fun h => absurd h (by show ¬ 5 = 13; decide)⟩, List.forall_mem_cons.mpr ⟨⟨fun _ => t_288, fun h => absurd h (by show ¬ 5 = 13; decide)⟩, List.forall_mem_cons.mpr ⟨⟨fun _ => t_296, fun h => absurd h (by show ¬ 5 = 13; decide)⟩, List.forall_mem_cons.mpr ⟨⟨fun _ => t_293, fun h => absurd h (by show ¬ 5 = 13; decide)⟩, List.forall_mem_cons.mpr ⟨⟨fun _ => t_325, fun h => absurd h (by show ¬ 5 = 13; decide)⟩, List.forall_mem_cons.mpr ⟨⟨fun _ => t_299, fun h => absurd h (by show ¬ 5 = 13; decide)⟩, List.forall_mem_cons.mpr ⟨⟨fun _ => t_302, fun h => absurd h (by show ¬ 5 = 13; decide)⟩, List.forall_mem_cons.mpr ⟨⟨fun _ => t_328, fun h => absurd h (by show ¬ 5 = 13; decide)⟩, List.forall_mem_cons.mpr ⟨⟨fun _ => t_305, fun h => absurd h (by show ¬ 5 = 13; decide)⟩, List.forall_mem_cons.mpr ⟨⟨fun _ => t_308, fun h => absurd h (by show ¬ 5 = 13; decide)⟩, List.forall_mem_cons.mpr ⟨⟨fun _ => t_331, fun h => absurd h (by show ¬ 5 = 13; decide)⟩, List.forall_mem_cons.mpr ⟨⟨fun _ => t_311, fun h => absurd h (by show ¬ 5 = 13; decide)⟩, List.forall_mem_cons.mpr ⟨⟨fun _ => t_334, fun h => absurd h (by show ¬ 5 = 13; decide)⟩, List.forall_mem_cons.mpr ⟨⟨fun _ => t_314, fun h => absurd h (by show ¬ 5 = 13; decide)⟩, List.forall_mem_cons.mpr ⟨⟨fun _ => t_318, fun h => absurd h (by show ¬ 5 = 13; decide)⟩, List.forall_mem_cons.mpr ⟨⟨fun _ => t_260, fun h => absurd h (by show ¬ 3 = 13; decide)⟩, List.forall_mem_cons.mpr ⟨⟨fun _ => t_258, fun h => absurd h (by show ¬ 3 = 13; decide)⟩, List.forall_mem_cons.mpr ⟨⟨fun _ => t_125, fun h => absurd h (by show ¬ 4 = 13; decide)⟩, List.forall_mem_cons.mpr ⟨⟨fun _ => t_94, fun h => absurd h (by show ¬ 6 = 13; decide)⟩, List.forall_mem_cons.mpr ⟨⟨fun _ => t_90, fun h => absurd h (by show ¬ 6 = 13; decide)⟩, List.forall_mem_cons.mpr ⟨⟨fun _ => t_92, fun h => absurd h (by show ¬ 6 = 13; decide)⟩, fun _ h => absurd h List.not_mem_nil⟩⟩⟩⟩⟩⟩⟩⟩⟩⟩⟩⟩⟩⟩⟩⟩⟩⟩⟩⟩⟩⟩⟩⟩⟩⟩⟩⟩⟩⟩⟩⟩⟩⟩⟩⟩⟩
theorem fd_5 : ∀ q ∈ fdt5, fdP 5 q := List.forall_mem_cons.mpr ⟨⟨fun _ => t_272, fun h => absurd h (by show ¬ 5 = 13; decide)⟩, List.forall_mem_cons.mpr ⟨⟨fun _ => t_277, fun h => absurd h (by show ¬ 5 = 13; decide)⟩, List.forall_mem_cons.mpr ⟨⟨fun _ => t_282, fun h => absurd h (by show ¬ 5 = 13; decide)⟩, List.forall_mem_cons.mpr ⟨⟨fun _ => t_287, fun h => absurd h (by show ¬ 5 = 13; decide)⟩, List.forall_mem_cons.mpr ⟨⟨fun _ => t_290, fun h => absurd h (by show ¬ 5 = 13; decide)⟩, List.forall_mem_cons.mpr ⟨⟨fun _ => t_295, fun h => absurd h (by show ¬ 5 = 13; decide)⟩, List.forall_mem_cons.mpr ⟨⟨fun _ => t_298, fun h => absurd h (by show ¬ 5 = 13; decide)⟩, List.forall_mem_cons.mpr ⟨⟨fun _ => t_301, fun h => absurd h (by show ¬ 5 = 13; decide)⟩, List.forall_mem_cons.mpr ⟨⟨fun _ => t_304, fun h => absurd h (by show ¬ 5 = 13; decide)⟩, List.forall_mem_cons.mpr ⟨⟨fun _ => t_307, fun h => absurd h (by show ¬ 5 = 13; decide)⟩, List.forall_mem_cons.mpr ⟨⟨fun _ => t_310, fun h => absurd h (by show ¬ 5 = 13; decide)⟩, List.forall_mem_cons.mpr ⟨⟨fun _ => t_313, fun h => absurd h (by show ¬ 5 = 13; decide)⟩, List.forall_mem_cons.mpr ⟨⟨fun _ => t_315, fun h => absurd h (by show ¬ 5 = 13; decide)⟩, List.forall_mem_cons.mpr ⟨⟨fun _ => t_317, fun h => absurd h (by show ¬ 5 = 13; decide)⟩, List.forall_mem_cons.mpr ⟨⟨fun _ => t_320, fun h => absurd h (by show ¬ 5 = 13; decide)⟩, List.forall_mem_cons.mpr ⟨⟨fun _ => t_324, fun h => absurd h (by show ¬ 5 = 13; decide)⟩, List.forall_mem_cons.mpr ⟨⟨fun _ => t_327, fun h => absurd h (by show ¬ 5 = 13; decide)⟩, List.forall_mem_cons.mpr ⟨⟨fun _ => t_330, fun h => absurd h (by show ¬ 5 = 13; decide)⟩, List.forall_mem_cons.mpr ⟨⟨fun _ => t_333, fun h => absurd h (by show ¬ 5 = 13; decide)⟩, List.forall_mem_cons.mpr ⟨⟨fun _ => t_336, fun h => absurd h (by show ¬ 5 = 13; decide)⟩, fun _ h => absurd h List.not_mem_nil⟩⟩⟩⟩⟩⟩⟩⟩⟩⟩⟩⟩⟩⟩⟩⟩⟩⟩⟩⟩
theorem fd_6 : ∀ q ∈ fdt6, fdP 6 q := List.forall_mem_cons.mpr ⟨⟨fun _ => t_88, fun h => absurd h (by show ¬ 6 = 13; decide)⟩, List.forall_mem_cons.mpr ⟨⟨fun _ => t_89, fun h => absurd h (by show ¬ 6 = 13; decide)⟩, List.forall_mem_cons.mpr ⟨⟨fun _ => t_91, fun h => absurd h (by show ¬ 6 = 13; decide)⟩, List.forall_mem_cons.mpr ⟨⟨fun _ => t_93, fun h => absurd h (by show ¬ 6 = 13; decide)⟩, List.forall_mem_cons.mpr ⟨⟨fun _ => t_95, fun h => absurd h (by show ¬ 6 = 13; decide)⟩, List.forall_mem_cons.mpr ⟨⟨fun _ => t_97, fun h => absurd h (by show ¬ 6 = 13; decide)⟩, fun _ h => absurd h List.not_mem_nil⟩⟩⟩⟩⟩⟩
theorem fd_7 : ∀ q ∈ fdt7, fdP 7 q := List.forall_mem_cons.mpr ⟨⟨fun _ => t_196, fun h => absurd h (by show ¬ 7 = 13; decide)⟩, List.forall_mem_cons.mpr ⟨⟨fun _ => t_198, fun h => absurd h (by show ¬ 7 = 13; decide)⟩, List.forall_mem_cons.mpr ⟨⟨fun _ => t_321, fun h => absurd h (by show ¬ 5 = 13; decide)⟩, List.forall_mem_cons.mpr ⟨⟨fun _ => t_273, fun h => absurd h (by show ¬ 5 = 13; decide)⟩, List.forall_mem_cons.mpr ⟨⟨fun _ => t_278, fun h => absurd h (by show ¬ 5 = 13; decide)⟩, List.forall_mem_cons.mpr ⟨⟨fun _ => t_284, fun h => absurd h (by show ¬ 5 = 13; decide)⟩, List.forall_mem_cons.mpr ⟨⟨fun _ => t_292, fun h => absurd h (by show ¬ 5 = 13; decide)⟩, fun _ h => absurd h List.not_mem_nil⟩⟩⟩⟩⟩⟩⟩
theorem fd_8 : ∀ q ∈ fdt8, fdP 8 q := List.forall_mem_cons.mpr ⟨⟨fun _ => t_403, fun h => absurd h (by show ¬ 8 = 13; decide)⟩, List.forall_mem_cons.mpr ⟨⟨fun _ => t_404, fun h => absurd h (by show ¬ 8 = 13; decide)⟩, List.forall_mem_cons.mpr ⟨⟨fun _ => t_405, fun h => absurd h (by show ¬ 8 = 13; decide)⟩, List.forall_mem_cons.mpr ⟨⟨fun _ => t_406, fun h => absurd h (by show ¬ 8 = 13; decide)⟩, List.forall_mem_cons.mpr ⟨⟨fun _ => t_407, fun h => absurd h (by show ¬ 8 = 13; decide)⟩, List.forall_mem_cons.mpr ⟨⟨fun _ => t_408, fun h => absurd h (by show ¬ 8 = 13; decide)⟩, List.forall_mem_cons.mpr ⟨⟨fun _ => t_409, fun h => absurd h (by show ¬ 8 = 13; decide)⟩, List.forall_mem_cons.mpr ⟨⟨fun _ => t_410, fun h => absurd h (by show ¬ 8 = 13; decide)⟩, List.forall_mem_cons.mpr ⟨⟨fun _ => t_411, fun h => absurd h (by show ¬ 8 = 13; decide)⟩, List.forall_mem_cons.mpr ⟨⟨fun _ => t_412, fun h => absurd h (by show ¬ 8 = 13; decide)⟩, List.forall_mem_cons.mpr ⟨⟨fun _ => t_413, fun h => absurd h (by show ¬ 8 = 13; decide)⟩, List.forall_mem_cons.mpr ⟨⟨fun _ => t_414, fun h => absurd h (by show ¬ 8 = 13; decide)⟩, List.forall_mem_cons.mpr ⟨⟨fun _ => t_415, fun h => absurd h (by show ¬ 8 = 13; decide)⟩, List.forall_mem_cons.mpr ⟨⟨fun _ => t_417, fun h => absurd h (by show ¬ 8 = 13; decide)⟩, List.forall_mem_cons.mpr ⟨⟨fun _ => t_96, fun h => absurd h (by show ¬ 6 = 13; decide)⟩, List.forall_mem_cons.mpr ⟨⟨fun _ => t_131, fun h => absurd h (by show ¬ 4 = 13; decide)⟩, List.forall_mem_cons.mpr ⟨⟨fun _ => t_416, fun h => absurd h (by show ¬ 8 = 13; decide)⟩, List.forall_mem_cons.mpr ⟨⟨fun _ => t_276, fun h => absurd h (by show ¬ 5 = 13; decide)⟩, List.forall_mem_cons.mpr ⟨⟨fun _ => t_281, fun h => absurd h (by show ¬ 5 = 13; decide)⟩, List.forall_mem_cons.mpr ⟨⟨fun _ => t_286, fun h => absurd h (by show ¬ 5 = 13; decide)⟩, List.forall_mem_cons.mpr ⟨⟨fun _ => t_289, fun h => absurd h (by show ¬ 5 = 13; decide)⟩, List.forall_mem_cons.mpr ⟨⟨fun _ => t_297, fun h => absurd h (by show ¬ 5 = 13; decide)⟩, List.forall_mem_cons.mpr ⟨⟨fun _ => t_294, fun h => absurd h (by show ¬ 5 = 13; decide)⟩, List.forall_mem_cons.mpr ⟨⟨fun _ => t_303, fun h => absurd h (by show ¬ 5 = 13; decide)⟩, List.forall_mem_cons.mpr ⟨⟨fun _ => t_168, fun h => absurd h (by show ¬ 2 = 13; decide)⟩, List.forall_mem_cons.mpr ⟨⟨fun _ => t_323, fun h => absurd h (by show ¬ 5 = 13; decide)⟩, List.forall_mem_cons.mpr ⟨⟨fun _ => t_326, fun h => absurd h (by show ¬ 5 = 13; decide)⟩, List.forall_mem_cons.mpr ⟨⟨fun _ => t_329, fun h => absurd h (by show ¬ 5 = 13; decide)⟩, List.forall_mem_cons.mpr ⟨⟨fun _ => t_332, fun h => absurd h (by show ¬ 5 = 13; decide)⟩, List.forall_mem_cons.mpr ⟨⟨fun _ => t_335, fun h => absurd h (by show ¬ 5 = 13; decide)⟩, List.forall_mem_cons.mpr ⟨⟨fun _ => t_175, fun h => absurd h (by show ¬ 2 = 13; decide)⟩, List.forall_mem_cons.mpr ⟨⟨fun _ => t_309, fun h => absurd h (by show ¬ 5 = 13; decide)⟩, List.forall_mem_cons.mpr ⟨⟨fun _ => t_170, fun h => absurd h (by show ¬ 2 = 13; decide)⟩, List.forall_mem_cons.mpr ⟨⟨fun _ => t_197, fun h => absurd h (by show ¬ 7 = 13; decide)⟩, List.forall_mem_cons.mpr ⟨⟨fun _ => t_200, fun h => absurd h (by show ¬ 7 = 13; decide)⟩, List.forall_mem_cons.mpr ⟨⟨fun _ => t_213, fun h => absurd h (by show ¬ 0 = 13; decide)⟩, List.forall_mem_cons.mpr ⟨⟨fun _ => t_229, fun h => absurd h (by show ¬ 1 = 13; decide)⟩, List.forall_mem_cons.mpr ⟨⟨fun _ => t_227, fun h => absurd h (by show ¬ 1 = 13; decide)⟩, List.forall_mem_cons.mpr ⟨⟨fun _ => t_231, fun h => absurd h (by show ¬ 1 = 13; decide)⟩, List.forall_mem_cons.mpr ⟨⟨fun _ => t_319, fun h => absurd h (by show ¬ 5 = 13; decide)⟩, List.forall_mem_cons.mpr ⟨⟨fun _ => t_312, fun h => absurd h (by show ¬ 5 = 13; decide)⟩, List.forall_mem_cons.mpr ⟨⟨fun _ => t_316, fun h => absurd h (by show ¬ 5 = 13; decide)⟩, List.forall_mem_cons.mpr ⟨⟨fun _ => t_300, fun h => absurd h (by show ¬ 5 = 13; decide)⟩, List.forall_mem_cons.mpr ⟨⟨fun _ => t_306, fun h => absurd h (by show ¬ 5 = 13; decide)⟩, List.forall_mem_cons.mpr ⟨⟨fun _ => t_338, fun h => absurd h (by show ¬ 5 = 13; decide)⟩, fun _ h => absurd h List.not_mem_nil⟩⟩⟩⟩⟩⟩⟩⟩⟩⟩⟩⟩⟩⟩⟩⟩⟩⟩⟩⟩⟩⟩⟩⟩⟩⟩⟩⟩⟩⟩⟩⟩⟩⟩⟩⟩⟩⟩⟩⟩⟩⟩⟩⟩⟩
theorem fd_9 : ∀ q ∈ fdt9, fdP 9 q := List.forall_mem_cons.mpr ⟨⟨fun _ => t_1057, fun h => absurd h (by show ¬ 9 = 13; decide)⟩, List.forall_mem_cons.mpr ⟨⟨fun _ => t_1059, fun h => absurd h (by show ¬ 9 = 13; decide)⟩, List.forall_mem_cons.mpr ⟨⟨fun _ => t_1061, fun h => absurd h (by show ¬ 9 = 13; decide)⟩, List.forall_mem_cons.mpr ⟨⟨fun _ => t_1062, fun h => absurd h (by show ¬ 9 = 13; decide)⟩, List.forall_mem_cons.mpr ⟨⟨fun _ => t_1063, fun h => absurd h (by show ¬ 9 = 13; decide)⟩, List.forall_mem_cons.mpr ⟨⟨fun _ => t_1064, fun h => absurd h (by show ¬ 9 = 13; decide)⟩, List.forall_mem_cons.mpr ⟨⟨fun _ => t_1065, fun h => absurd h (by show ¬ 9 = 13; decide)⟩, List.forall_mem_cons.mpr ⟨⟨fun _ => t_1073, fun h => absurd h (by show ¬ 9 = 13; decide)⟩, List.forall_mem_cons.mpr ⟨⟨fun _ => t_1077, fun h => absurd h (by show ¬ 9 = 13; decide)⟩, List.forall_mem_cons.mpr ⟨⟨fun _ => t_1078, fun h => absurd h (by show ¬ 9 = 13; decide)⟩, List.forall_mem_cons.mpr ⟨⟨fun _ => t_1079, fun h => absurd h (by show ¬ 9 = 13; decide)⟩, List.forall_mem_cons.mpr ⟨⟨fun _ => t_1080, fun h => absurd h (by show ¬ 9 = 13; decide)⟩, List.forall_mem_cons.mpr ⟨⟨fun _ => t_1081, fun h => absurd h (by show ¬ 9 = 13; decide)⟩, List.forall_mem_cons.mpr ⟨⟨fun _ => t_1082, fun h => absurd h (by show ¬ 9 = 13; decide)⟩, List.forall_mem_cons.mpr ⟨⟨fun _ => t_1083, fun h => absurd h (by show ¬ 9 = 13; decide)⟩, List.forall_mem_cons.mpr ⟨⟨fun _ => t_1084, fun h => absurd h (by show ¬ 9 = 13; decide)⟩, List.forall_mem_cons.mpr ⟨⟨fun _ => t_1085, fun h => absurd h (by show ¬ 9 = 13; decide)⟩, List.forall_mem_cons.mpr ⟨⟨fun _ => t_1086, fun h => absurd h (by show ¬ 9 = 13; decide)⟩, List.forall_mem_cons.mpr ⟨⟨fun _ => t_1087, fun h => absurd h (by show ¬ 9 = 13; decide)⟩, List.forall_mem_cons.mpr ⟨⟨fun _ => t_1088, fun h => absurd h (by show ¬ 9 = 13; decide)⟩, List.forall_mem_cons.mpr ⟨⟨fun _ => t_1089, fun h => absurd h (by show ¬ 9 = 13; decide)⟩, List.forall_mem_cons.mpr ⟨⟨fun _ => t_1090, fun h => absurd h (by show ¬ 9 = 13; decide)⟩, List.forall_mem_cons.mpr ⟨⟨fun _ => t_1091, fun h => absurd h (by show ¬ 9 = 13; decide)⟩, List.forall_mem_cons.mpr ⟨⟨fun _ => t_1092, fun h => absurd h (by show ¬ 9 = 13; decide)⟩, List.forall_mem_cons.mpr ⟨⟨fun _ => t_1093, fun h => absurd h (by show ¬ 9 = 13; decide)⟩, List.forall_mem_cons.mpr ⟨⟨fun _ => t_1094, fun h => absurd h (by show ¬ 9 = 13; decide)⟩, List.forall_mem_cons.mpr ⟨⟨fun _ => t_1095, fun h => absurd h (by show ¬ 9 = 13; decide)⟩, List.forall_mem_cons.mpr ⟨⟨fun _ => t_1096, fun h => absurd h (by show ¬ 9 = 13; decide)⟩, List.forall_mem_cons.mpr ⟨⟨fun _ => t_1097, fun h => absurd h (by show ¬ 9 = 13; decide)⟩, List.forall_mem_cons.mpr ⟨⟨fun _ => t_1098, fun h => absurd h (by show ¬ 9 = 13; decide)⟩, List.forall_mem_cons.mpr ⟨⟨fun _ => t_1099, fun h => absurd h (by show ¬ 9 = 13; decide)⟩, List.forall_mem_cons.mpr ⟨⟨fun _ => t_1101, fun h => absurd h (by show ¬ 9 = 13; decide)⟩, List.forall_mem_cons.mpr ⟨⟨fun _ => t_1102, fun h => absurd h (by show ¬ 9 = 13; decide)⟩, List.forall_mem_cons.mpr ⟨⟨fun _ => t_1103, fun h => absurd h (by show ¬ 9 = 13; decide)⟩, List.forall_mem_cons.mpr ⟨⟨fun _ => t_1104, fun h => absurd h (by show ¬ 9 = 13; decide)⟩, List.forall_mem_cons.mpr ⟨⟨fun _ => t_1105, fun h => absurd h (by show ¬ 9 = 13; decide)⟩, List.forall_mem_cons.mpr ⟨⟨fun _ => t_1107, fun h => absurd h (by show ¬ 9 = 13; decide)⟩, List.forall_mem_cons.mpr ⟨⟨fun _ => t_1108, fun h => absurd h (by show ¬ 9 = 13; decide)⟩, List.forall_mem_cons.mpr ⟨⟨fun _ => t_1109, fun h => absurd h (by show ¬ 9 = 13; decide)⟩, List.forall_mem_cons.mpr ⟨⟨fun _ => t_1111, fun h => absurd h (by show ¬ 9 = 13; decide)⟩, List.forall_mem_cons.mpr ⟨⟨fun _ => t_1112, fun h => absurd h (by show ¬ 9 = 13; decide)⟩, List.forall_mem_cons.mpr ⟨⟨fun _ => t_1114, fun h => absurd h (by show ¬ 9 = 13; decide)⟩, List.forall_mem_cons.mpr ⟨⟨fun _ => t_1115, fun h => absurd h (by show ¬ 9 = 13; decide)⟩, List.forall_mem_cons.mpr ⟨⟨fun _ => t_1116, fun h => absurd h (by show ¬ 9 = 13; decide)⟩, List.forall_mem_cons.mpr ⟨⟨fun _ => t_1117, fun h => absurd h (by show ¬ 9 = 13; decide)⟩, List.forall_mem_cons.mpr ⟨⟨fun _ => t_1119, fun h => absurd h (by show ¬ 9 = 13; decide)⟩, List.forall_mem_cons.mpr ⟨⟨fun _ => t_1120, fun h => absurd h (by show ¬ 9 = 13; decide)⟩, List.forall_mem_cons.mpr ⟨⟨fun _ => t_1121, fun h => absurd h (by show ¬ 9 = 13; decide)⟩, List.forall_mem_cons.mpr ⟨⟨fun _ => t_1126, fun h => absurd h (by show ¬ 9 = 13; decide)⟩, List.forall_mem_cons.mpr ⟨⟨fun _ => t_1127, fun h => absurd h (by show ¬ 9 = 13; decide)⟩, List.forall_mem_cons.mpr ⟨⟨fun _ => t_1128, fun h => absurd h (by show ¬ 9 = 13; decide)⟩, List.forall_mem_cons.mpr ⟨⟨fun _ => t_1129, fun h => absurd h (by show ¬ 9 = 13; decide)⟩, List.forall_mem_cons.mpr ⟨⟨fun _ => t_1130, fun h => absurd h (by show ¬ 9 = 13; decide)⟩, List.forall_mem_cons.mpr ⟨⟨fun _ => t_1058, fun h => absurd h (by show ¬ 9 = 13; decide)⟩, List.forall_mem_cons.mpr ⟨⟨fun _ => t_1060, fun h => absurd h (by show ¬ 9 = 13; decide)⟩, List.forall_mem_cons.mpr ⟨⟨fun _ => t_1066, fun h => absurd h (by show ¬ 9 = 13; decide)⟩, List.forall_mem_cons.mpr ⟨⟨fun _ => t_1069, fun h => absurd h (by show ¬ 9 = 13; decide)⟩, List.forall_mem_cons.mpr ⟨⟨fun _ => t_1067, fun h => absurd h (by show ¬ 9 = 13; decide)⟩, List.forall_mem_cons.mpr ⟨⟨fun _ => t_1070, fun h => absurd h (by show ¬ 9 = 13; decide)⟩, List.forall_mem_cons.mpr ⟨⟨fun _ => t_1071, fun h => absurd h (by show ¬ 9 = 13; decide)⟩, List.forall_mem_cons.mpr ⟨⟨fun _ => t_1072, fun h => absurd h (by show ¬ 9 = 13; decide)⟩, List.forall_mem_cons.mpr ⟨⟨fun _ => t_1068, fun h => absurd h (by show ¬ 9 = 13; decide)⟩, List.forall_mem_cons.mpr ⟨⟨fun _ => t_1074, fun h => absurd h (by show ¬ 9 = 13; decide)⟩, List.forall_mem_cons.mpr ⟨⟨fun _ => t_1075, fun h => absurd h (by show ¬ 9 = 13; decide)⟩, List.forall_mem_cons.mpr ⟨⟨fun _ => t_1076, fun h => absurd h (by show ¬ 9 = 13; decide)⟩, List.forall_mem_cons.mpr ⟨⟨fun _ => t_1100, fun h => absurd h (by show ¬ 9 = 13; decide)⟩, List.forall_mem_cons.mpr ⟨⟨fun _ => t_1106, fun h => absurd h (by show ¬ 9 = 13; decide)⟩, List.forall_mem_cons.mpr ⟨⟨fun _ => t_1118, fun h => absurd h (by show ¬ 9 = 13; decide)⟩, List.forall_mem_cons.mpr ⟨⟨fun _ => t_1125, fun h => absurd h (by show ¬ 9 = 13; decide)⟩, List.forall_mem_cons.mpr ⟨⟨fun _ => t_1110, fun h => absurd h (by show ¬ 9 = 13; decide)⟩, List.forall_mem_cons.mpr ⟨⟨fun _ => t_1113, fun h => absurd h (by show ¬ 9 = 13; decide)⟩, List.forall_mem_cons.mpr ⟨⟨fun _ => t_1123, fun h => absurd h (by show ¬ 9 = 13; decide)⟩, List.forall_mem_cons.mpr ⟨⟨fun _ => t_1122, fun h => absurd h (by show ¬ 9 = 13; decide)⟩, List.forall_mem_cons.mpr ⟨⟨fun _ => t_1124, fun h => absurd h (by show ¬ 9 = 13; decide)⟩, fun _ h => absurd h List.not_mem_nil⟩⟩⟩⟩⟩⟩⟩⟩⟩⟩⟩⟩⟩⟩⟩⟩⟩⟩⟩⟩⟩⟩⟩⟩⟩⟩⟩⟩⟩⟩⟩⟩⟩⟩⟩⟩⟩⟩⟩⟩⟩⟩⟩⟩⟩⟩⟩⟩⟩⟩⟩⟩⟩⟩⟩⟩⟩⟩⟩⟩⟩⟩⟩⟩⟩⟩⟩⟩⟩⟩⟩⟩⟩⟩
theorem fd_10 : ∀ q ∈ fdt10, fdP 10 q := fun _ h => absurd h List.not_mem_nil
theorem fd_11 : ∀ q ∈ fdt11, fdP 11 q := fun _ h => absurd h List.not_mem_nil
theorem fd_12 : ∀ q ∈ fdt12, fdP 12 q := fun _ h => absurd h List.not_mem_nil
theorem fd_13 : ∀ q ∈ fdt13, fdP 13 q := List.forall_mem_cons.mpr ⟨⟨fun h => absurd h (by show ¬ 13 < 10; decide), fun _ => ⟨rfl, fun _ => t_1716, fun h => absurd rfl h⟩⟩, List.forall_mem_cons.mpr ⟨⟨fun h => absurd h (by show ¬ 13 < 10; decide), fun _ => ⟨rfl, fun h => absurd h (by show ¬ 1 = 0; decide), fun _ => t_1717⟩⟩, fun _ h => absurd h List.not_mem_nil⟩⟩
theorem fd_14 : ∀ q ∈ fdt14, fdP 14 q := fun _ h => absurd h List.not_mem_nil
theorem fd_15 : ∀ q ∈ fdt15, fdP 15 q := fun _ h => absurd h List.not_mem_nil
theorem fd_16 : ∀ q ∈ fdt16, fdP 16 q := fun _ h => absurd h List.not_mem_nil
def yP (y : Nat) : Prop := ((nmM y).cls ≠ "java/lang/invoke/MethodHandle" ∧ (nmM y).cls ≠ "java/lang/invoke/VarHandle") ∧ (nmM y).cls = cn (ocM y) ∧ plainName (nmM y).cls = true ∧ Cond.code (nmM y) (cdM y) (mlM y) (rtM y) ∈ tbX ∧ Cond.initialized (nmM y).cls ∈ tbX ∧ ocM y < 17
def prM (y : Nat) : Option Nat := (parseMethodDescriptor (nmM y).desc).map (fun d => d.parameters.length)
theorem yP_0 : yP 0 := ⟨by decide +kernel, rfl, by decide +kernel, t_210, t_10, by decide⟩
theorem yP_1 : yP 1 := ⟨by decide +kernel, rfl, by decide +kernel, t_907, t_10, by decide⟩
theorem yP_2 : yP 2 := ⟨by decide +kernel, rfl, by decide +kernel, t_915, t_10, by decide⟩
theorem yP_3 : yP 3 := ⟨by decide +kernel, rfl, by decide +kernel, t_931, t_10, by decide⟩
theorem yP_4 : yP 4 := ⟨by decide +kernel, rfl, by decide +kernel, t_919, t_10, by decide⟩
theorem yP_5 : yP 5 := ⟨by decide +kernel, rfl, by decide +kernel, t_224, t_11, by decide⟩
theorem yP_6 : yP 6 := ⟨by decide +kernel, rfl, by decide +kernel, t_939, t_11, by decide⟩
theorem yP_7 : yP 7 := ⟨by decide +kernel, rfl, by decide +kernel, t_954, t_11, by decide⟩
theorem yP_8 : yP 8 := ⟨by decide +kernel, rfl, by decide +kernel, t_945, t_11, by decide⟩
theorem yP_9 : yP 9 := ⟨by decide +kernel, rfl, by decide +kernel, t_949, t_11, by decide⟩
theorem yP_10 : yP 10 := ⟨by decide +kernel, rfl, by decide +kernel, t_165, t_8, by decide⟩
theorem yP_11 : yP 11 := ⟨by decide +kernel, rfl, by decide +kernel, t_399, t_8, by decide⟩
theorem yP_12 : yP 12 := ⟨by decide +kernel, rfl, by decide +kernel, t_748, t_8, by decide⟩
theorem yP_13 : yP 13 := ⟨by decide +kernel, rfl, by decide +kernel, t_835, t_8, by decide⟩
theorem yP_14 : yP 14 := ⟨by decide +kernel, rfl, by decide +kernel, t_843, t_8, by decide⟩
theorem yP_15 : yP 15 := ⟨by decide +kernel, rfl, by decide +kernel, t_851, t_8, by decide⟩
theorem yP_16 : yP 16 := ⟨by decide +kernel, rfl, by decide +kernel, t_733, t_8, by decide⟩
theorem yP_17 : yP 17 := ⟨by decide +kernel, rfl, by decide +kernel, t_252, t_13, by decide⟩
theorem yP_18 : yP 18 := ⟨by decide +kernel, rfl, by decide +kernel, t_387, t_13, by decide⟩
theorem yP_19 : yP 19 := ⟨by decide +kernel, rfl, by decide +kernel, t_391, t_13, by decide⟩
theorem yP_20 : yP 20 := ⟨by decide +kernel, rfl, by decide +kernel, t_395, t_13, by decide⟩
theorem yP_21 : yP 21 := ⟨by decide +kernel, rfl, by decide +kernel, t_666, t_13, by decide⟩
theorem yP_22 : yP 22 := ⟨by decide +kernel, rfl, by decide +kernel, t_795, t_13, by decide⟩
theorem yP_23 : yP 23 := ⟨by decide +kernel, rfl, by decide +kernel, t_823, t_13, by decide⟩
theorem yP_24 : yP 24 := ⟨by decide +kernel, rfl, by decide +kernel, t_962, t_13, by decide⟩
theorem yP_25 : yP 25 := ⟨by decide +kernel, rfl, by decide +kernel, t_995, t_13, by decide⟩
theorem yP_26 : yP 26 := ⟨by decide +kernel, rfl, by decide +kernel, t_800, t_13, by decide⟩
theorem yP_27 : yP 27 := ⟨by decide +kernel, rfl, by decide +kernel, t_803, t_13, by decide⟩
theorem yP_28 : yP 28 := ⟨by decide +kernel, rfl, by decide +kernel, t_118, t_7, by decide⟩
theorem yP_29 : yP 29 := ⟨by decide +kernel, rfl, by decide +kernel, t_563, t_7, by decide⟩
theorem yP_30 : yP 30 := ⟨by decide +kernel, rfl, by decide +kernel, t_572, t_7, by decide⟩
theorem yP_31 : yP 31 := ⟨by decide +kernel, rfl, by decide +kernel, t_576, t_7, by decide⟩
theorem yP_32 : yP 32 := ⟨by decide +kernel, rfl, by decide +kernel, t_612, t_7, by decide⟩
theorem yP_33 : yP 33 := ⟨by decide +kernel, rfl, by decide +kernel, t_620, t_7, by decide⟩
theorem yP_34 : yP 34 := ⟨by decide +kernel, rfl, by decide +kernel, t_629, t_7, by decide⟩
theorem yP_35 : yP 35 := ⟨by decide +kernel, rfl, by decide +kernel, t_633, t_7, by decide⟩
theorem yP_36 : yP 36 := ⟨by decide +kernel, rfl, by decide +kernel, t_637, t_7, by decide⟩
theorem yP_37 : yP 37 := ⟨by decide +kernel, rfl, by decide +kernel, t_641, t_7, by decide⟩
theorem yP_38 : yP 38 := ⟨by decide +kernel, rfl, by decide +kernel, t_645, t_7, by decide⟩
theorem yP_39 : yP 39 := ⟨by decide +kernel, rfl, by decide +kernel, t_649, t_7, by decide⟩
theorem yP_40 : yP 40 := ⟨by decide +kernel, rfl, by decide +kernel, t_657, t_7, by decide⟩
theorem yP_41 : yP 41 := ⟨by decide +kernel, rfl, by decide +kernel, t_653, t_7, by decide⟩
theorem yP_42 : yP 42 := ⟨by decide +kernel, rfl, by decide +kernel, t_662, t_7, by decide⟩
theorem yP_43 : yP 43 := ⟨by decide +kernel, rfl, by decide +kernel, t_568, t_7, by decide⟩
theorem yP_44 : yP 44 := ⟨by decide +kernel, rfl, by decide +kernel, t_616, t_7, by decide⟩
theorem yP_45 : yP 45 := ⟨by decide +kernel, rfl, by decide +kernel, t_588, t_7, by decide⟩
theorem yP_46 : yP 46 := ⟨by decide +kernel, rfl, by decide +kernel, t_580, t_7, by decide⟩
theorem yP_47 : yP 47 := ⟨by decide +kernel, rfl, by decide +kernel, t_604, t_7, by decide⟩
theorem yP_48 : yP 48 := ⟨by decide +kernel, rfl, by decide +kernel, t_592, t_7, by decide⟩
theorem yP_49 : yP 49 := ⟨by decide +kernel, rfl, by decide +kernel, t_624, t_7, by decide⟩
theorem yP_50 : yP 50 := ⟨by decide +kernel, rfl, by decide +kernel, t_596, t_7, by decide⟩
theorem yP_51 : yP 51 := ⟨by decide +kernel, rfl, by decide +kernel, t_608, t_7, by decide⟩
theorem yP_52 : yP 52 := ⟨by decide +kernel, rfl, by decide +kernel, t_584, t_7, by decide⟩
theorem yP_53 : yP 53 := ⟨by decide +kernel, rfl, by decide +kernel, t_600, t_7, by decide⟩
theorem yP_54 : yP 54 := ⟨by decide +kernel, rfl, by decide +kernel, t_246, t_12, by decide⟩
theorem yP_55 : yP 55 := ⟨by decide +kernel, rfl, by decide +kernel, t_383, t_12, by decide⟩
theorem yP_56 : yP 56 := ⟨by decide +kernel, rfl, by decide +kernel, t_670, t_12, by decide⟩
theorem yP_57 : yP 57 := ⟨by decide +kernel, rfl, by decide +kernel, t_674, t_12, by decide⟩
theorem yP_58 : yP 58 := ⟨by decide +kernel, rfl, by decide +kernel, t_32, t_2, by decide⟩
theorem yP_59 : yP 59 := ⟨by decide +kernel, rfl, by decide +kernel, t_456, t_2, by decide⟩
theorem yP_60 : yP 60 := ⟨by decide +kernel, rfl, by decide +kernel, t_468, t_2, by decide⟩
theorem yP_61 : yP 61 := ⟨by decide +kernel, rfl, by decide +kernel, t_472, t_2, by decide⟩
theorem yP_62 : yP 62 := ⟨by decide +kernel, rfl, by decide +kernel, t_479, t_2, by decide⟩
theorem yP_63 : yP 63 := ⟨by decide +kernel, rfl, by decide +kernel, t_486, t_2, by decide⟩
theorem yP_64 : yP 64 := ⟨by decide +kernel, rfl, by decide +kernel, t_490, t_2, by decide⟩
theorem yP_65 : yP 65 := ⟨by decide +kernel, rfl, by decide +kernel, t_497, t_2, by decide⟩
theorem yP_66 : yP 66 := ⟨by decide +kernel, rfl, by decide +kernel, t_85, t_2, by decide⟩
theorem yP_67 : yP 67 := ⟨by decide +kernel, rfl, by decide +kernel, t_475, t_2, by decide⟩
theorem yP_68 : yP 68 := ⟨by decide +kernel, rfl, by decide +kernel, t_482, t_2, by decide⟩
theorem yP_69 : yP 69 := ⟨by decide +kernel, rfl, by decide +kernel, t_493, t_2, by decide⟩
theorem yP_70 : yP 70 := ⟨by decide +kernel, rfl, by decide +kernel, t_194, t_9, by decide⟩
theorem yP_71 : yP 71 := ⟨by decide +kernel, rfl, by decide +kernel, t_772, t_9, by decide⟩
theorem yP_72 : yP 72 := ⟨by decide +kernel, rfl, by decide +kernel, t_1021, t_9, by decide⟩
theorem yP_73 : yP 73 := ⟨by decide +kernel, rfl, by decide +kernel, t_776, t_9, by decide⟩
theorem yP_74 : yP 74 := ⟨by decide +kernel, rfl, by decide +kernel, t_780, t_9, by decide⟩
theorem yP_75 : yP 75 := ⟨by decide +kernel, rfl, by decide +kernel, t_24, t_1, by decide⟩
theorem yP_76 : yP 76 := ⟨by decide +kernel, rfl, by decide +kernel, t_452, t_1, by decide⟩
theorem yP_77 : yP 77 := ⟨by decide +kernel, rfl, by decide +kernel, t_460, t_1, by decide⟩
theorem yP_78 : yP 78 := ⟨by decide +kernel, rfl, by decide +kernel, t_464, t_1, by decide⟩
theorem yP_79 : yP 79 := ⟨by decide +kernel, rfl, by decide +kernel, t_678, t_1, by decide⟩
theorem yP_80 : yP 80 := ⟨by decide +kernel, rfl, by decide +kernel, t_682, t_1, by decide⟩
theorem yP_81 : yP 81 := ⟨by decide +kernel, rfl, by decide +kernel, t_690, t_1, by decide⟩
theorem yP_82 : yP 82 := ⟨by decide +kernel, rfl, by decide +kernel, t_698, t_1, by decide⟩
theorem yP_83 : yP 83 := ⟨by decide +kernel, rfl, by decide +kernel, t_721, t_1, by decide⟩
theorem yP_84 : yP 84 := ⟨by decide +kernel, rfl, by decide +kernel, t_729, t_1, by decide⟩
theorem yP_85 : yP 85 := ⟨by decide +kernel, rfl, by decide +kernel, t_737, t_1, by decide⟩
theorem yP_86 : yP 86 := ⟨by decide +kernel, rfl, by decide +kernel, t_756, t_1, by decide⟩
theorem yP_87 : yP 87 := ⟨by decide +kernel, rfl, by decide +kernel, t_811, t_1, by decide⟩
theorem yP_88 : yP 88 := ⟨by decide +kernel, rfl, by decide +kernel, t_815, t_1, by decide⟩
theorem yP_89 : yP 89 := ⟨by decide +kernel, rfl, by decide +kernel, t_831, t_1, by decide⟩
theorem yP_90 : yP 90 := ⟨by decide +kernel, rfl, by decide +kernel, t_839, t_1, by decide⟩
theorem yP_91 : yP 91 := ⟨by decide +kernel, rfl, by decide +kernel, t_847, t_1, by decide⟩
theorem yP_92 : yP 92 := ⟨by decide +kernel, rfl, by decide +kernel, t_855, t_1, by decide⟩
theorem yP_93 : yP 93 := ⟨by decide +kernel, rfl, by decide +kernel, t_859, t_1, by decide⟩
theorem yP_94 : yP 94 := ⟨by decide +kernel, rfl, by decide +kernel, t_863, t_1, by decide⟩
theorem yP_95 : yP 95 := ⟨by decide +kernel, rfl, by decide +kernel, t_883, t_1, by decide⟩
theorem yP_96 : yP 96 := ⟨by decide +kernel, rfl, by decide +kernel, t_887, t_1, by decide⟩
theorem yP_97 : yP 97 := ⟨by decide +kernel, rfl, by decide +kernel, t_891, t_1, by decide⟩
theorem yP_98 : yP 98 := ⟨by decide +kernel, rfl, by decide +kernel, t_895, t_1, by decide⟩
theorem yP_99 : yP 99 := ⟨by decide +kernel, rfl, by decide +kernel, t_927, t_1, by decide⟩
theorem yP_100 : yP 100 := ⟨by decide +kernel, rfl, by decide +kernel, t_935, t_1, by decide⟩
theorem yP_101 : yP 101 := ⟨by decide +kernel, rfl, by decide +kernel, t_958, t_1, by decide⟩
theorem yP_102 : yP 102 := ⟨by decide +kernel, rfl, by decide +kernel, t_966, t_1, by decide⟩
theorem yP_103 : yP 103 := ⟨by decide +kernel, rfl, by decide +kernel, t_975, t_1, by decide⟩
theorem yP_104 : yP 104 := ⟨by decide +kernel, rfl, by decide +kernel, t_983, t_1, by decide⟩
theorem yP_105 : yP 105 := ⟨by decide +kernel, rfl, by decide +kernel, t_991, t_1, by decide⟩
theorem yP_106 : yP 106 := ⟨by decide +kernel, rfl, by decide +kernel, t_1001, t_1, by decide⟩
theorem yP_107 : yP 107 := ⟨by decide +kernel, rfl, by decide +kernel, t_1005, t_1, by decide⟩
theorem yP_108 : yP 108 := ⟨by decide +kernel, rfl, by decide +kernel, t_1009, t_1, by decide⟩
theorem yP_109 : yP 109 := ⟨by decide +kernel, rfl, by decide +kernel, t_1013, t_1, by decide⟩
theorem yP_110 : yP 110 := ⟨by decide +kernel, rfl, by decide +kernel, t_1027, t_1, by decide⟩
theorem yP_111 : yP 111 := ⟨by decide +kernel, rfl, by decide +kernel, t_686, t_1, by decide⟩
theorem yP_112 : yP 112 := ⟨by decide +kernel, rfl, by decide +kernel, t_741, t_1, by decide⟩
theorem yP_113 : yP 113 := ⟨by decide +kernel, rfl, by decide +kernel, t_694, t_1, by decide⟩
theorem yP_114 : yP 114 := ⟨by decide +kernel, rfl, by decide +kernel, t_702, t_1, by decide⟩
theorem yP_115 : yP 115 := ⟨by decide +kernel, rfl, by decide +kernel, t_970, t_1, by decide⟩
theorem yP_116 : yP 116 := ⟨by decide +kernel, rfl, by decide +kernel, t_725, t_1, by decide⟩
theorem yP_117 : yP 117 := ⟨by decide +kernel, rfl, by decide +kernel, t_744, t_1, by decide⟩
theorem yP_118 : yP 118 := ⟨by decide +kernel, rfl, by decide +kernel, t_867, t_1, by decide⟩
theorem yP_119 : yP 119 := ⟨by decide +kernel, rfl, by decide +kernel, t_899, t_1, by decide⟩
theorem yP_120 : yP 120 := ⟨by decide +kernel, rfl, by decide +kernel, t_710, t_1, by decide⟩
theorem yP_121 : yP 121 := ⟨by decide +kernel, rfl, by decide +kernel, t_707, t_1, by decide⟩
theorem yP_122 : yP 122 := ⟨by decide +kernel, rfl, by decide +kernel, t_819, t_1, by decide⟩
theorem yP_123 : yP 123 := ⟨by decide +kernel, rfl, by decide +kernel, t_826, t_1, by decide⟩
theorem yP_124 : yP 124 := ⟨by decide +kernel, rfl, by decide +kernel, t_791, t_1, by decide⟩
theorem yP_125 : yP 125 := ⟨by decide +kernel, rfl, by decide +kernel, t_767, t_1, by decide⟩
theorem yP_126 : yP 126 := ⟨by decide +kernel, rfl, by decide +kernel, t_764, t_1, by decide⟩
theorem yP_127 : yP 127 := ⟨by decide +kernel, rfl, by decide +kernel, t_760, t_1, by decide⟩
theorem yP_128 : yP 128 := ⟨by decide +kernel, rfl, by decide +kernel, t_787, t_1, by decide⟩
theorem yP_129 : yP 129 := ⟨by decide +kernel, rfl, by decide +kernel, t_807, t_1, by decide⟩
theorem yP_130 : yP 130 := ⟨by decide +kernel, rfl, by decide +kernel, t_871, t_1, by decide⟩
theorem yP_131 : yP 131 := ⟨by decide +kernel, rfl, by decide +kernel, t_875, t_1, by decide⟩
theorem yP_132 : yP 132 := ⟨by decide +kernel, rfl, by decide +kernel, t_879, t_1, by decide⟩
theorem yP_133 : yP 133 := ⟨by decide +kernel, rfl, by decide +kernel, t_903, t_1, by decide⟩
theorem yP_134 : yP 134 := ⟨by decide +kernel, rfl, by decide +kernel, t_1017, t_1, by decide⟩
theorem yP_135 : yP 135 := ⟨by decide +kernel, rfl, by decide +kernel, t_979, t_1, by decide⟩
theorem yP_136 : yP 136 := ⟨by decide +kernel, rfl, by decide +kernel, t_987, t_1, by decide⟩
theorem yP_137 : yP 137 := ⟨by decide +kernel, rfl, by decide +kernel, t_923, t_1, by decide⟩
theorem yP_138 : yP 138 := ⟨by decide +kernel, rfl, by decide +kernel, t_1032, t_15, by decide⟩
theorem yP_139 : yP 139 := ⟨by decide +kernel, rfl, by decide +kernel, t_1285, t_15, by decide⟩
theorem yP_140 : yP 140 := ⟨by decide +kernel, rfl, by decide +kernel, t_1289, t_15, by decide⟩
theorem yP_141 : yP 141 := ⟨by decide +kernel, rfl, by decide +kernel, t_1293, t_15, by decide⟩
theorem yP_142 : yP 142 := ⟨by decide +kernel, rfl, by decide +kernel, t_1305, t_15, by decide⟩
theorem yP_143 : yP 143 := ⟨by decide +kernel, rfl, by decide +kernel, t_1315, t_15, by decide⟩
theorem yP_144 : yP 144 := ⟨by decide +kernel, rfl, by decide +kernel, t_1312, t_15, by decide⟩
theorem yP_145 : yP 145 := ⟨by decide +kernel, rfl, by decide +kernel, t_1043, t_15, by decide⟩
theorem yP_146 : yP 146 := ⟨by decide +kernel, rfl, by decide +kernel, t_1040, t_15, by decide⟩
theorem yP_147 : yP 147 := ⟨by decide +kernel, rfl, by decide +kernel, t_1309, t_15, by decide⟩
theorem yP_148 : yP 148 := ⟨by decide +kernel, rfl, by decide +kernel, t_1301, t_15, by decide⟩
theorem yP_149 : yP 149 := ⟨by decide +kernel, rfl, by decide +kernel, t_1319, t_15, by decide⟩
theorem yP_150 : yP 150 := ⟨by decide +kernel, rfl, by decide +kernel, t_1323, t_15, by decide⟩
theorem yP_151 : yP 151 := ⟨by decide +kernel, rfl, by decide +kernel, t_1335, t_15, by decide⟩
theorem yP_152 : yP 152 := ⟨by decide +kernel, rfl, by decide +kernel, t_1355, t_15, by decide⟩
theorem yP_153 : yP 153 := ⟨by decide +kernel, rfl, by decide +kernel, t_1339, t_15, by decide⟩
theorem yP_154 : yP 154 := ⟨by decide +kernel, rfl, by decide +kernel, t_1351, t_15, by decide⟩
theorem yP_155 : yP 155 := ⟨by decide +kernel, rfl, by decide +kernel, t_1037, t_15, by decide⟩
theorem yP_156 : yP 156 := ⟨by decide +kernel, rfl, by decide +kernel, t_1297, t_15, by decide⟩
theorem yP_157 : yP 157 := ⟨by decide +kernel, rfl, by decide +kernel, t_1415, t_15, by decide⟩
theorem yP_158 : yP 158 := ⟨by decide +kernel, rfl, by decide +kernel, t_1331, t_15, by decide⟩
theorem yP_159 : yP 159 := ⟨by decide +kernel, rfl, by decide +kernel, t_1327, t_15, by decide⟩
theorem yP_160 : yP 160 := ⟨by decide +kernel, rfl, by decide +kernel, t_1347, t_15, by decide⟩
theorem yP_161 : yP 161 := ⟨by decide +kernel, rfl, by decide +kernel, t_1363, t_15, by decide⟩
theorem yP_162 : yP 162 := ⟨by decide +kernel, rfl, by decide +kernel, t_1371, t_15, by decide⟩
theorem yP_163 : yP 163 := ⟨by decide +kernel, rfl, by decide +kernel, t_1359, t_15, by decide⟩
theorem yP_164 : yP 164 := ⟨by decide +kernel, rfl, by decide +kernel, t_1343, t_15, by decide⟩
theorem yP_165 : yP 165 := ⟨by decide +kernel, rfl, by decide +kernel, t_1367, t_15, by decide⟩
theorem yP_166 : yP 166 := ⟨by decide +kernel, rfl, by decide +kernel, t_1375, t_15, by decide⟩
theorem yP_167 : yP 167 := ⟨by decide +kernel, rfl, by decide +kernel, t_1379, t_15, by decide⟩
theorem yP_168 : yP 168 := ⟨by decide +kernel, rfl, by decide +kernel, t_1383, t_15, by decide⟩
theorem yP_169 : yP 169 := ⟨by decide +kernel, rfl, by decide +kernel, t_1387, t_15, by decide⟩
theorem yP_170 : yP 170 := ⟨by decide +kernel, rfl, by decide +kernel, t_1391, t_15, by decide⟩
theorem yP_171 : yP 171 := ⟨by decide +kernel, rfl, by decide +kernel, t_1411, t_15, by decide⟩
theorem yP_172 : yP 172 := ⟨by decide +kernel, rfl, by decide +kernel, t_1403, t_15, by decide⟩
theorem yP_173 : yP 173 := ⟨by decide +kernel, rfl, by decide +kernel, t_1407, t_15, by decide⟩
theorem yP_174 : yP 174 := ⟨by decide +kernel, rfl, by decide +kernel, t_1395, t_15, by decide⟩
theorem yP_175 : yP 175 := ⟨by decide +kernel, rfl, by decide +kernel, t_1399, t_15, by decide⟩
theorem yP_176 : yP 176 := ⟨by decide +kernel, rfl, by decide +kernel, t_1524, t_15, by decide⟩
theorem yP_177 : yP 177 := ⟨by decide +kernel, rfl, by decide +kernel, t_1426, t_15, by decide⟩
theorem yP_178 : yP 178 := ⟨by decide +kernel, rfl, by decide +kernel, t_1466, t_15, by decide⟩
theorem yP_179 : yP 179 := ⟨by decide +kernel, rfl, by decide +kernel, t_1423, t_15, by decide⟩
theorem yP_180 : yP 180 := ⟨by decide +kernel, rfl, by decide +kernel, t_1454, t_15, by decide⟩
theorem yP_181 : yP 181 := ⟨by decide +kernel, rfl, by decide +kernel, t_1477, t_15, by decide⟩
theorem yP_182 : yP 182 := ⟨by decide +kernel, rfl, by decide +kernel, t_1430, t_15, by decide⟩
theorem yP_183 : yP 183 := ⟨by decide +kernel, rfl, by decide +kernel, t_1434, t_15, by decide⟩
theorem yP_184 : yP 184 := ⟨by decide +kernel, rfl, by decide +kernel, t_1446, t_15, by decide⟩
theorem yP_185 : yP 185 := ⟨by decide +kernel, rfl, by decide +kernel, t_1048, t_15, by decide⟩
theorem yP_186 : yP 186 := ⟨by decide +kernel, rfl, by decide +kernel, t_1052, t_15, by decide⟩
theorem yP_187 : yP 187 := ⟨by decide +kernel, rfl, by decide +kernel, t_1056, t_15, by decide⟩
theorem yP_188 : yP 188 := ⟨by decide +kernel, rfl, by decide +kernel, t_1459, t_15, by decide⟩
theorem yP_189 : yP 189 := ⟨by decide +kernel, rfl, by decide +kernel, t_1503, t_15, by decide⟩
theorem yP_190 : yP 190 := ⟨by decide +kernel, rfl, by decide +kernel, t_1500, t_15, by decide⟩
theorem yP_191 : yP 191 := ⟨by decide +kernel, rfl, by decide +kernel, t_1463, t_15, by decide⟩
theorem yP_192 : yP 192 := ⟨by decide +kernel, rfl, by decide +kernel, t_1516, t_15, by decide⟩
theorem yP_193 : yP 193 := ⟨by decide +kernel, rfl, by decide +kernel, t_1520, t_15, by decide⟩
theorem yP_194 : yP 194 := ⟨by decide +kernel, rfl, by decide +kernel, t_1543, t_15, by decide⟩
theorem yP_195 : yP 195 := ⟨by decide +kernel, rfl, by decide +kernel, t_1512, t_15, by decide⟩
theorem yP_196 : yP 196 := ⟨by decide +kernel, rfl, by decide +kernel, t_1540, t_15, by decide⟩
theorem yP_197 : yP 197 := ⟨by decide +kernel, rfl, by decide +kernel, t_1496, t_15, by decide⟩
theorem yP_198 : yP 198 := ⟨by decide +kernel, rfl, by decide +kernel, t_1493, t_15, by decide⟩
theorem yP_199 : yP 199 := ⟨by decide +kernel, rfl, by decide +kernel, t_1528, t_15, by decide⟩
theorem yP_200 : yP 200 := ⟨by decide +kernel, rfl, by decide +kernel, t_1508, t_15, by decide⟩
theorem yP_201 : yP 201 := ⟨by decide +kernel, rfl, by decide +kernel, t_1489, t_15, by decide⟩
theorem yP_202 : yP 202 := ⟨by decide +kernel, rfl, by decide +kernel, t_1419, t_15, by decide⟩
theorem yP_203 : yP 203 := ⟨by decide +kernel, rfl, by decide +kernel, t_1442, t_15, by decide⟩
theorem yP_204 : yP 204 := ⟨by decide +kernel, rfl, by decide +kernel, t_1438, t_15, by decide⟩
theorem yP_205 : yP 205 := ⟨by decide +kernel, rfl, by decide +kernel, t_1450, t_15, by decide⟩
theorem yP_206 : yP 206 := ⟨by decide +kernel, rfl, by decide +kernel, t_1470, t_15, by decide⟩
theorem yP_207 : yP 207 := ⟨by decide +kernel, rfl, by decide +kernel, t_1481, t_15, by decide⟩
theorem yP_208 : yP 208 := ⟨by decide +kernel, rfl, by decide +kernel, t_1474, t_15, by decide⟩
theorem yP_209 : yP 209 := ⟨by decide +kernel, rfl, by decide +kernel, t_1485, t_15, by decide⟩
theorem yP_210 : yP 210 := ⟨by decide +kernel, rfl, by decide +kernel, t_1532, t_15, by decide⟩
theorem yP_211 : yP 211 := ⟨by decide +kernel, rfl, by decide +kernel, t_1536, t_15, by decide⟩
theorem yP_212 : yP 212 := ⟨by decide +kernel, rfl, by decide +kernel, t_1547, t_15, by decide⟩
theorem yP_213 : yP 213 := ⟨by decide +kernel, rfl, by decide +kernel, t_1551, t_15, by decide⟩
theorem yP_214 : yP 214 := ⟨by decide +kernel, rfl, by decide +kernel, t_1555, t_15, by decide⟩
theorem yP_215 : yP 215 := ⟨by decide +kernel, rfl, by decide +kernel, t_1567, t_15, by decide⟩
theorem yP_216 : yP 216 := ⟨by decide +kernel, rfl, by decide +kernel, t_1563, t_15, by decide⟩
theorem yP_217 : yP 217 := ⟨by decide +kernel, rfl, by decide +kernel, t_1559, t_15, by decide⟩
theorem yP_218 : yP 218 := ⟨by decide +kernel, rfl, by decide +kernel, t_1571, t_15, by decide⟩
theorem yP_219 : yP 219 := ⟨by decide +kernel, rfl, by decide +kernel, t_1575, t_15, by decide⟩
theorem yP_220 : yP 220 := ⟨by decide +kernel, rfl, by decide +kernel, t_1579, t_15, by decide⟩
theorem yP_221 : yP 221 := ⟨by decide +kernel, rfl, by decide +kernel, t_1598, t_15, by decide⟩
theorem yP_222 : yP 222 := ⟨by decide +kernel, rfl, by decide +kernel, t_1594, t_15, by decide⟩
theorem yP_223 : yP 223 := ⟨by decide +kernel, rfl, by decide +kernel, t_1591, t_15, by decide⟩
theorem yP_224 : yP 224 := ⟨by decide +kernel, rfl, by decide +kernel, t_1604, t_15, by decide⟩
theorem yP_225 : yP 225 := ⟨by decide +kernel, rfl, by decide +kernel, t_1601, t_15, by decide⟩
theorem yP_226 : yP 226 := ⟨by decide +kernel, rfl, by decide +kernel, t_1587, t_15, by decide⟩
theorem yP_227 : yP 227 := ⟨by decide +kernel, rfl, by decide +kernel, t_1583, t_15, by decide⟩
theorem yP_228 : yP 228 := ⟨by decide +kernel, rfl, by decide +kernel, t_1608, t_15, by decide⟩
theorem yP_229 : yP 229 := ⟨by decide +kernel, rfl, by decide +kernel, t_1619, t_15, by decide⟩
theorem yP_230 : yP 230 := ⟨by decide +kernel, rfl, by decide +kernel, t_1623, t_15, by decide⟩
theorem yP_231 : yP 231 := ⟨by decide +kernel, rfl, by decide +kernel, t_1616, t_15, by decide⟩
theorem yP_232 : yP 232 := ⟨by decide +kernel, rfl, by decide +kernel, t_1612, t_15, by decide⟩
theorem yP_233 : yP 233 := ⟨by decide +kernel, rfl, by decide +kernel, t_1639, t_15, by decide⟩
theorem yP_234 : yP 234 := ⟨by decide +kernel, rfl, by decide +kernel, t_1635, t_15, by decide⟩
theorem yP_235 : yP 235 := ⟨by decide +kernel, rfl, by decide +kernel, t_1631, t_15, by decide⟩
theorem yP_236 : yP 236 := ⟨by decide +kernel, rfl, by decide +kernel, t_1627, t_15, by decide⟩
theorem yP_237 : yP 237 := ⟨by decide +kernel, rfl, by decide +kernel, t_1647, t_15, by decide⟩
theorem yP_238 : yP 238 := ⟨by decide +kernel, rfl, by decide +kernel, t_1651, t_15, by decide⟩
theorem yP_239 : yP 239 := ⟨by decide +kernel, rfl, by decide +kernel, t_1643, t_15, by decide⟩
theorem yP_240 : yP 240 := ⟨by decide +kernel, rfl, by decide +kernel, t_1655, t_15, by decide⟩
theorem yP_241 : yP 241 := ⟨by decide +kernel, rfl, by decide +kernel, t_1663, t_15, by decide⟩
theorem yP_242 : yP 242 := ⟨by decide +kernel, rfl, by decide +kernel, t_1659, t_15, by decide⟩
theorem yP_243 : yP 243 := ⟨by decide +kernel, rfl, by decide +kernel, t_1675, t_15, by decide⟩
theorem yP_244 : yP 244 := ⟨by decide +kernel, rfl, by decide +kernel, t_1671, t_15, by decide⟩
theorem yP_245 : yP 245 := ⟨by decide +kernel, rfl, by decide +kernel, t_1667, t_15, by decide⟩
theorem yP_246 : yP 246 := ⟨by decide +kernel, rfl, by decide +kernel, t_1679, t_15, by decide⟩
theorem yP_247 : yP 247 := ⟨by decide +kernel, rfl, by decide +kernel, t_1683, t_15, by decide⟩
theorem yP_248 : yP 248 := ⟨by decide +kernel, rfl, by decide +kernel, t_1687, t_15, by decide⟩
theorem yP_249 : yP 249 := ⟨by decide +kernel, rfl, by decide +kernel, t_1695, t_15, by decide⟩
theorem yP_250 : yP 250 := ⟨by decide +kernel, rfl, by decide +kernel, t_1691, t_15, by decide⟩
theorem yP_251 : yP 251 := ⟨by decide +kernel, rfl, by decide +kernel, t_1699, t_15, by decide⟩
theorem yP_252 : yP 252 := ⟨by decide +kernel, rfl, by decide +kernel, t_1703, t_15, by decide⟩
theorem yP_253 : yP 253 := ⟨by decide +kernel, rfl, by decide +kernel, t_1707, t_15, by decide⟩
theorem yP_254 : yP 254 := ⟨by decide +kernel, rfl, by decide +kernel, t_1711, t_15, by decide⟩
theorem yP_255 : yP 255 := ⟨by decide +kernel, rfl, by decide +kernel, t_1715, t_15, by decide⟩
theorem yP_256 : yP 256 := ⟨by decide +kernel, rfl, by decide +kernel, t_713, t_18, by decide⟩
theorem yP_257 : yP 257 := ⟨by decide +kernel, rfl, by decide +kernel, t_38, t_3, by decide⟩
theorem yP_258 : yP 258 := ⟨by decide +kernel, rfl, by decide +kernel, t_48, t_3, by decide⟩
theorem yP_259 : yP 259 := ⟨by decide +kernel, rfl, by decide +kernel, t_504, t_3, by decide⟩
theorem yP_260 : yP 260 := ⟨by decide +kernel, rfl, by decide +kernel, t_508, t_3, by decide⟩
theorem yP_261 : yP 261 := ⟨by decide +kernel, rfl, by decide +kernel, t_42, t_3, by decide⟩
theorem yP_262 : yP 262 := ⟨by decide +kernel, rfl, by decide +kernel, t_52, t_3, by decide⟩
theorem yP_263 : yP 263 := ⟨by decide +kernel, rfl, by decide +kernel, t_58, t_3, by decide⟩
theorem yP_264 : yP 264 := ⟨by decide +kernel, rfl, by decide +kernel, t_55, t_4, by decide⟩
theorem yP_265 : yP 265 := ⟨by decide +kernel, rfl, by decide +kernel, t_515, t_4, by decide⟩
theorem yP_266 : yP 266 := ⟨by decide +kernel, rfl, by decide +kernel, t_512, t_4, by decide⟩
theorem yP_267 : yP 267 := ⟨by decide +kernel, rfl, by decide +kernel, t_524, t_4, by decide⟩
theorem yP_268 : yP 268 := ⟨by decide +kernel, rfl, by decide +kernel, t_910, t_14, by decide⟩
theorem yP_269 : yP 269 := ⟨by decide +kernel, rfl, by decide +kernel, t_402, t_14, by decide⟩
theorem yP_270 : yP 270 := ⟨by decide +kernel, rfl, by decide +kernel, t_63, t_5, by decide⟩
def nstL : List (String × Nat × MethodName) := [("SchoolLosing", 27, ⟨"SchoolLosing$Going", "<init>", "()V"⟩), ("SchoolLosing", 34, ⟨"SchoolLosing$Wants", "<init>", "()V"⟩), ("SchoolLosing", 41, ⟨"SchoolLosing$Chances", "<init>", "()V"⟩), ("SchoolLosing", 48, ⟨"SchoolLosing$Choice", "<init>", "()V"⟩), ("SchoolLosing", 72, ⟨"SchoolLosing$Text", "<init>", "()V"⟩), ("SchoolLosing$Text", 53, ⟨"SchoolLosing$Laws", "<init>", "()V"⟩)]
def lkP (k : Nat) (q : Nat × Nat × Nat) : Prop := match q.2.1 with
  | 0 => Cond.methodLink (cn k) q.1 (nmM q.2.2) ∈ tbX ∧ Cond.instanceMethod (nmM q.2.2) ∈ tbX ∧ Cond.selects (nmM q.2.2).cls (nmM q.2.2) (nmM q.2.2) ∈ tbX ∧ prM q.2.2 = some (naM q.2.2 - 1) ∧ 0 < naM q.2.2 ∧ yP q.2.2
  | 1 => Cond.methodLink (cn k) q.1 (nmM q.2.2) ∈ tbX ∧ Cond.static (nmM q.2.2) ∈ tbX ∧ prM q.2.2 = some (naM q.2.2) ∧ yP q.2.2
  | 2 => Cond.methodLink (cn k) q.1 (nmM q.2.2) ∈ tbX ∧ Cond.instanceMethod (nmM q.2.2) ∈ tbX ∧ (nmM q.2.2).name = "<init>" ∧ prM q.2.2 = some (naM q.2.2 - 1) ∧ 0 < naM q.2.2 ∧ yP q.2.2 ∧ rtM q.2.2 = none
  | 3 => (cn k, q.1, nmM q.2.2) ∈ nstL ∧ Cond.instanceMethod (nmM q.2.2) ∈ tbX ∧ (nmM q.2.2).name = "<init>" ∧ prM q.2.2 = some (naM q.2.2 - 1) ∧ 0 < naM q.2.2 ∧ yP q.2.2 ∧ rtM q.2.2 = none
  | 4 => Cond.methodLink (cn k) q.1 objectInit ∈ tbX
  | 5 => Cond.methodLink (cn k) q.1 arraycopyName ∈ tbX
  | 6 => Cond.methodLink (cn k) q.1 Lib.Math.max.name ∈ tbX
  | 7 => Cond.methodLink (cn k) q.1 Lib.Math.min.name ∈ tbX
  | 8 => Cond.methodLink (cn k) q.1 Lib.Math.abs.name ∈ tbX
  | _ => False
theorem lk_0_3 : lkP 0 (3, 4, 0) := t_211
theorem lk_0_18 : lkP 0 (18, 1, 268) := ⟨t_908, t_909, by decide +kernel, yP_268⟩
theorem lk_0_40 : lkP 0 (40, 0, 2) := ⟨t_912, t_914, ts_52, by decide +kernel, by decide, yP_2⟩
theorem lk_0_50 : lkP 0 (50, 1, 4) := ⟨t_917, t_918, by decide +kernel, yP_4⟩
set_option maxRecDepth 20000 in
theorem lk_0 : ∀ q ∈ lnk0, lkP 0 q := List.forall_mem_cons.mpr ⟨lk_0_3, List.forall_mem_cons.mpr ⟨lk_0_18, List.forall_mem_cons.mpr ⟨lk_0_40, List.forall_mem_cons.mpr ⟨lk_0_50, fun _ h => absurd h List.not_mem_nil⟩⟩⟩⟩
theorem lk_1_1 : lkP 1 (1, 4, 0) := t_225
theorem lk_1_19 : lkP 1 (19, 7, 0) := t_940
theorem lk_1_29 : lkP 1 (29, 1, 256) := ⟨t_941, t_712, by decide +kernel, yP_256⟩
theorem lk_1_35 : lkP 1 (35, 0, 8) := ⟨t_942, t_944, ts_53, by decide +kernel, by decide, yP_8⟩
theorem lk_1_38 : lkP 1 (38, 0, 9) := ⟨t_946, t_948, ts_54, by decide +kernel, by decide, yP_9⟩
set_option maxRecDepth 20000 in
theorem lk_1 : ∀ q ∈ lnk1, lkP 1 q := List.forall_mem_cons.mpr ⟨lk_1_1, List.forall_mem_cons.mpr ⟨lk_1_19, List.forall_mem_cons.mpr ⟨lk_1_29, List.forall_mem_cons.mpr ⟨lk_1_35, List.forall_mem_cons.mpr ⟨lk_1_38, fun _ h => absurd h List.not_mem_nil⟩⟩⟩⟩⟩
theorem lk_2_3 : lkP 2 (3, 4, 0) := t_166
theorem lk_2_25 : lkP 2 (25, 1, 269) := ⟨t_400, t_401, by decide +kernel, yP_269⟩
theorem lk_2_38 : lkP 2 (38, 5, 0) := t_749
theorem lk_2_44 : lkP 2 (44, 7, 0) := t_752
set_option maxRecDepth 20000 in
theorem lk_2 : ∀ q ∈ lnk2, lkP 2 q := List.forall_mem_cons.mpr ⟨lk_2_3, List.forall_mem_cons.mpr ⟨lk_2_25, List.forall_mem_cons.mpr ⟨lk_2_38, List.forall_mem_cons.mpr ⟨lk_2_44, fun _ h => absurd h List.not_mem_nil⟩⟩⟩⟩
theorem lk_3_5 : lkP 3 (5, 4, 0) := t_253
theorem lk_3_28 : lkP 3 (28, 0, 19) := ⟨t_388, t_390, ts_0, by decide +kernel, by decide, yP_19⟩
theorem lk_3_32 : lkP 3 (32, 0, 20) := ⟨t_392, t_393, t_394, by decide +kernel, by decide, yP_20⟩
theorem lk_3_36 : lkP 3 (36, 1, 269) := ⟨t_796, t_401, by decide +kernel, yP_269⟩
theorem lk_3_42 : lkP 3 (42, 0, 26) := ⟨t_797, t_799, ts_43, by decide +kernel, by decide, yP_26⟩
theorem lk_3_46 : lkP 3 (46, 1, 27) := ⟨t_801, t_802, by decide +kernel, yP_27⟩
set_option maxRecDepth 20000 in
theorem lk_3 : ∀ q ∈ lnk3, lkP 3 q := List.forall_mem_cons.mpr ⟨lk_3_5, List.forall_mem_cons.mpr ⟨lk_3_28, List.forall_mem_cons.mpr ⟨lk_3_32, List.forall_mem_cons.mpr ⟨lk_3_36, List.forall_mem_cons.mpr ⟨lk_3_42, List.forall_mem_cons.mpr ⟨lk_3_46, fun _ h => absurd h List.not_mem_nil⟩⟩⟩⟩⟩⟩
theorem lk_4_3 : lkP 4 (3, 4, 0) := t_119
theorem lk_4_37 : lkP 4 (37, 0, 55) := ⟨t_564, t_381, t_382, by decide +kernel, by decide, yP_55⟩
theorem lk_4_57 : lkP 4 (57, 0, 43) := ⟨t_565, t_567, ts_6, by decide +kernel, by decide, yP_43⟩
theorem lk_4_63 : lkP 4 (63, 0, 30) := ⟨t_569, t_571, ts_7, by decide +kernel, by decide, yP_30⟩
theorem lk_4_67 : lkP 4 (67, 0, 56) := ⟨t_667, t_668, t_669, by decide +kernel, by decide, yP_56⟩
theorem lk_4_70 : lkP 4 (70, 0, 31) := ⟨t_573, t_575, ts_8, by decide +kernel, by decide, yP_31⟩
theorem lk_4_73 : lkP 4 (73, 0, 32) := ⟨t_609, t_611, ts_17, by decide +kernel, by decide, yP_32⟩
theorem lk_4_76 : lkP 4 (76, 0, 34) := ⟨t_626, t_628, ts_21, by decide +kernel, by decide, yP_34⟩
theorem lk_4_79 : lkP 4 (79, 0, 35) := ⟨t_630, t_632, ts_22, by decide +kernel, by decide, yP_35⟩
theorem lk_4_82 : lkP 4 (82, 0, 36) := ⟨t_634, t_636, ts_23, by decide +kernel, by decide, yP_36⟩
theorem lk_4_85 : lkP 4 (85, 0, 37) := ⟨t_638, t_640, ts_24, by decide +kernel, by decide, yP_37⟩
theorem lk_4_88 : lkP 4 (88, 0, 38) := ⟨t_642, t_644, ts_25, by decide +kernel, by decide, yP_38⟩
theorem lk_4_91 : lkP 4 (91, 0, 45) := ⟨t_585, t_587, ts_11, by decide +kernel, by decide, yP_45⟩
theorem lk_4_95 : lkP 4 (95, 0, 47) := ⟨t_601, t_603, ts_15, by decide +kernel, by decide, yP_47⟩
theorem lk_4_102 : lkP 4 (102, 0, 52) := ⟨t_581, t_583, ts_10, by decide +kernel, by decide, yP_52⟩
theorem lk_4_108 : lkP 4 (108, 0, 46) := ⟨t_577, t_579, ts_9, by decide +kernel, by decide, yP_46⟩
theorem lk_4_112 : lkP 4 (112, 0, 48) := ⟨t_589, t_591, ts_12, by decide +kernel, by decide, yP_48⟩
theorem lk_4_128 : lkP 4 (128, 0, 51) := ⟨t_605, t_607, ts_16, by decide +kernel, by decide, yP_51⟩
theorem lk_4_132 : lkP 4 (132, 0, 44) := ⟨t_613, t_615, ts_18, by decide +kernel, by decide, yP_44⟩
theorem lk_4_135 : lkP 4 (135, 0, 33) := ⟨t_617, t_619, ts_19, by decide +kernel, by decide, yP_33⟩
theorem lk_4_139 : lkP 4 (139, 0, 53) := ⟨t_597, t_599, ts_14, by decide +kernel, by decide, yP_53⟩
theorem lk_4_142 : lkP 4 (142, 0, 49) := ⟨t_621, t_623, ts_20, by decide +kernel, by decide, yP_49⟩
theorem lk_4_152 : lkP 4 (152, 6, 0) := t_625
theorem lk_4_196 : lkP 4 (196, 0, 39) := ⟨t_646, t_648, ts_26, by decide +kernel, by decide, yP_39⟩
theorem lk_4_199 : lkP 4 (199, 0, 20) := ⟨t_658, t_393, t_394, by decide +kernel, by decide, yP_20⟩
theorem lk_4_202 : lkP 4 (202, 0, 21) := ⟨t_663, t_664, t_665, by decide +kernel, by decide, yP_21⟩
theorem lk_4_211 : lkP 4 (211, 0, 41) := ⟨t_650, t_652, ts_27, by decide +kernel, by decide, yP_41⟩
theorem lk_4_214 : lkP 4 (214, 0, 40) := ⟨t_654, t_656, ts_28, by decide +kernel, by decide, yP_40⟩
theorem lk_4_217 : lkP 4 (217, 0, 42) := ⟨t_659, t_661, ts_29, by decide +kernel, by decide, yP_42⟩
theorem lk_4_229 : lkP 4 (229, 0, 50) := ⟨t_593, t_595, ts_13, by decide +kernel, by decide, yP_50⟩
set_option maxRecDepth 20000 in
theorem lk_4 : ∀ q ∈ lnk4, lkP 4 q := List.forall_mem_cons.mpr ⟨lk_4_3, List.forall_mem_cons.mpr ⟨lk_4_37, List.forall_mem_cons.mpr ⟨lk_4_57, List.forall_mem_cons.mpr ⟨lk_4_63, List.forall_mem_cons.mpr ⟨lk_4_67, List.forall_mem_cons.mpr ⟨lk_4_70, List.forall_mem_cons.mpr ⟨lk_4_73, List.forall_mem_cons.mpr ⟨lk_4_76, List.forall_mem_cons.mpr ⟨lk_4_79, List.forall_mem_cons.mpr ⟨lk_4_82, List.forall_mem_cons.mpr ⟨lk_4_85, List.forall_mem_cons.mpr ⟨lk_4_88, List.forall_mem_cons.mpr ⟨lk_4_91, List.forall_mem_cons.mpr ⟨lk_4_95, List.forall_mem_cons.mpr ⟨lk_4_102, List.forall_mem_cons.mpr ⟨lk_4_108, List.forall_mem_cons.mpr ⟨lk_4_112, List.forall_mem_cons.mpr ⟨lk_4_128, List.forall_mem_cons.mpr ⟨lk_4_132, List.forall_mem_cons.mpr ⟨lk_4_135, List.forall_mem_cons.mpr ⟨lk_4_139, List.forall_mem_cons.mpr ⟨lk_4_142, List.forall_mem_cons.mpr ⟨lk_4_152, List.forall_mem_cons.mpr ⟨lk_4_196, List.forall_mem_cons.mpr ⟨lk_4_199, List.forall_mem_cons.mpr ⟨lk_4_202, List.forall_mem_cons.mpr ⟨lk_4_211, List.forall_mem_cons.mpr ⟨lk_4_214, List.forall_mem_cons.mpr ⟨lk_4_217, List.forall_mem_cons.mpr ⟨lk_4_229, fun _ h => absurd h List.not_mem_nil⟩⟩⟩⟩⟩⟩⟩⟩⟩⟩⟩⟩⟩⟩⟩⟩⟩⟩⟩⟩⟩⟩⟩⟩⟩⟩⟩⟩⟩⟩
theorem lk_5_3 : lkP 5 (3, 4, 0) := t_247
theorem lk_5_53 : lkP 5 (53, 3, 17) := ⟨List.mem_of_getElem? (i := 5) rfl, t_251, rfl, by decide +kernel, by decide, yP_17, rfl⟩
theorem lk_5_77 : lkP 5 (77, 0, 18) := ⟨t_384, t_385, t_386, by decide +kernel, by decide, yP_18⟩
theorem lk_5_80 : lkP 5 (80, 0, 57) := ⟨t_671, t_673, ts_30, by decide +kernel, by decide, yP_57⟩
set_option maxRecDepth 20000 in
theorem lk_5 : ∀ q ∈ lnk5, lkP 5 q := List.forall_mem_cons.mpr ⟨lk_5_3, List.forall_mem_cons.mpr ⟨lk_5_53, List.forall_mem_cons.mpr ⟨lk_5_77, List.forall_mem_cons.mpr ⟨lk_5_80, fun _ h => absurd h List.not_mem_nil⟩⟩⟩⟩
theorem lk_6_3 : lkP 6 (3, 4, 0) := t_33
theorem lk_6_31 : lkP 6 (31, 0, 257) := ⟨t_35, t_36, t_37, by decide +kernel, by decide, yP_257⟩
theorem lk_6_37 : lkP 6 (37, 0, 258) := ⟨t_45, t_46, t_47, by decide +kernel, by decide, yP_258⟩
theorem lk_6_41 : lkP 6 (41, 1, 66) := ⟨t_83, t_84, by decide +kernel, yP_66⟩
theorem lk_6_48 : lkP 6 (48, 0, 61) := ⟨t_469, t_471, ts_1, by decide +kernel, by decide, yP_61⟩
theorem lk_6_52 : lkP 6 (52, 0, 62) := ⟨t_476, t_478, ts_2, by decide +kernel, by decide, yP_62⟩
theorem lk_6_56 : lkP 6 (56, 1, 67) := ⟨t_473, t_474, by decide +kernel, yP_67⟩
theorem lk_6_60 : lkP 6 (60, 1, 68) := ⟨t_480, t_481, by decide +kernel, yP_68⟩
theorem lk_6_63 : lkP 6 (63, 0, 63) := ⟨t_483, t_485, ts_3, by decide +kernel, by decide, yP_63⟩
theorem lk_6_66 : lkP 6 (66, 1, 69) := ⟨t_491, t_492, by decide +kernel, yP_69⟩
theorem lk_6_69 : lkP 6 (69, 0, 65) := ⟨t_494, t_496, ts_5, by decide +kernel, by decide, yP_65⟩
theorem lk_6_74 : lkP 6 (74, 0, 259) := ⟨t_501, t_502, t_503, by decide +kernel, by decide, yP_259⟩
theorem lk_6_77 : lkP 6 (77, 0, 64) := ⟨t_487, t_489, ts_4, by decide +kernel, by decide, yP_64⟩
set_option maxRecDepth 20000 in
theorem lk_6 : ∀ q ∈ lnk6, lkP 6 q := List.forall_mem_cons.mpr ⟨lk_6_3, List.forall_mem_cons.mpr ⟨lk_6_31, List.forall_mem_cons.mpr ⟨lk_6_37, List.forall_mem_cons.mpr ⟨lk_6_41, List.forall_mem_cons.mpr ⟨lk_6_48, List.forall_mem_cons.mpr ⟨lk_6_52, List.forall_mem_cons.mpr ⟨lk_6_56, List.forall_mem_cons.mpr ⟨lk_6_60, List.forall_mem_cons.mpr ⟨lk_6_63, List.forall_mem_cons.mpr ⟨lk_6_66, List.forall_mem_cons.mpr ⟨lk_6_69, List.forall_mem_cons.mpr ⟨lk_6_74, List.forall_mem_cons.mpr ⟨lk_6_77, fun _ h => absurd h List.not_mem_nil⟩⟩⟩⟩⟩⟩⟩⟩⟩⟩⟩⟩⟩
theorem lk_7_3 : lkP 7 (3, 4, 0) := t_195
theorem lk_7_30 : lkP 7 (30, 0, 73) := ⟨t_773, t_775, ts_39, by decide +kernel, by decide, yP_73⟩
theorem lk_7_34 : lkP 7 (34, 0, 71) := ⟨t_1022, t_770, t_771, by decide +kernel, by decide, yP_71⟩
theorem lk_7_38 : lkP 7 (38, 0, 74) := ⟨t_777, t_779, ts_40, by decide +kernel, by decide, yP_74⟩
theorem lk_7_45 : lkP 7 (45, 8, 0) := t_781
set_option maxRecDepth 20000 in
theorem lk_7 : ∀ q ∈ lnk7, lkP 7 q := List.forall_mem_cons.mpr ⟨lk_7_3, List.forall_mem_cons.mpr ⟨lk_7_30, List.forall_mem_cons.mpr ⟨lk_7_34, List.forall_mem_cons.mpr ⟨lk_7_38, List.forall_mem_cons.mpr ⟨lk_7_45, fun _ h => absurd h List.not_mem_nil⟩⟩⟩⟩⟩
theorem lk_8_3 : lkP 8 (3, 4, 0) := t_25
theorem lk_8_11 : lkP 8 (11, 2, 58) := ⟨t_30, t_31, rfl, by decide +kernel, by decide, yP_58, rfl⟩
theorem lk_8_18 : lkP 8 (18, 2, 28) := ⟨t_116, t_117, rfl, by decide +kernel, by decide, yP_28, rfl⟩
theorem lk_8_27 : lkP 8 (27, 3, 10) := ⟨List.mem_of_getElem? (i := 0) rfl, t_164, rfl, by decide +kernel, by decide, yP_10, rfl⟩
theorem lk_8_34 : lkP 8 (34, 3, 70) := ⟨List.mem_of_getElem? (i := 1) rfl, t_193, rfl, by decide +kernel, by decide, yP_70, rfl⟩
theorem lk_8_41 : lkP 8 (41, 3, 0) := ⟨List.mem_of_getElem? (i := 2) rfl, t_209, rfl, by decide +kernel, by decide, yP_0, rfl⟩
theorem lk_8_48 : lkP 8 (48, 3, 5) := ⟨List.mem_of_getElem? (i := 3) rfl, t_223, rfl, by decide +kernel, by decide, yP_5, rfl⟩
theorem lk_8_72 : lkP 8 (72, 3, 54) := ⟨List.mem_of_getElem? (i := 4) rfl, t_245, rfl, by decide +kernel, by decide, yP_54, rfl⟩
theorem lk_8_84 : lkP 8 (84, 0, 55) := ⟨t_380, t_381, t_382, by decide +kernel, by decide, yP_55⟩
theorem lk_8_87 : lkP 8 (87, 0, 11) := ⟨t_396, t_397, t_398, by decide +kernel, by decide, yP_11⟩
theorem lk_8_91 : lkP 8 (91, 0, 59) := ⟨t_453, t_454, t_455, by decide +kernel, by decide, yP_59⟩
theorem lk_8_95 : lkP 8 (95, 0, 60) := ⟨t_465, t_466, t_467, by decide +kernel, by decide, yP_60⟩
theorem lk_8_98 : lkP 8 (98, 0, 29) := ⟨t_560, t_561, t_562, by decide +kernel, by decide, yP_29⟩
theorem lk_8_106 : lkP 8 (106, 0, 111) := ⟨t_683, t_685, ts_31, by decide +kernel, by decide, yP_111⟩
theorem lk_8_122 : lkP 8 (122, 0, 113) := ⟨t_691, t_693, ts_32, by decide +kernel, by decide, yP_113⟩
theorem lk_8_132 : lkP 8 (132, 0, 114) := ⟨t_699, t_701, ts_33, by decide +kernel, by decide, yP_114⟩
theorem lk_8_136 : lkP 8 (136, 0, 121) := ⟨t_704, t_706, ts_34, by decide +kernel, by decide, yP_121⟩
theorem lk_8_146 : lkP 8 (146, 1, 120) := ⟨t_708, t_709, by decide +kernel, yP_120⟩
theorem lk_8_150 : lkP 8 (150, 0, 116) := ⟨t_722, t_724, ts_35, by decide +kernel, by decide, yP_116⟩
theorem lk_8_172 : lkP 8 (172, 0, 16) := ⟨t_730, t_731, t_732, by decide +kernel, by decide, yP_16⟩
theorem lk_8_176 : lkP 8 (176, 0, 112) := ⟨t_738, t_740, ts_36, by decide +kernel, by decide, yP_112⟩
theorem lk_8_179 : lkP 8 (179, 1, 117) := ⟨t_742, t_743, by decide +kernel, yP_117⟩
theorem lk_8_182 : lkP 8 (182, 0, 12) := ⟨t_745, t_746, t_747, by decide +kernel, by decide, yP_12⟩
theorem lk_8_185 : lkP 8 (185, 0, 127) := ⟨t_757, t_759, ts_37, by decide +kernel, by decide, yP_127⟩
theorem lk_8_188 : lkP 8 (188, 0, 128) := ⟨t_784, t_786, ts_41, by decide +kernel, by decide, yP_128⟩
theorem lk_8_194 : lkP 8 (194, 1, 256) := ⟨t_711, t_712, by decide +kernel, yP_256⟩
theorem lk_8_199 : lkP 8 (199, 0, 122) := ⟨t_816, t_818, ts_45, by decide +kernel, by decide, yP_122⟩
theorem lk_8_203 : lkP 8 (203, 0, 13) := ⟨t_832, t_833, t_834, by decide +kernel, by decide, yP_13⟩
theorem lk_8_206 : lkP 8 (206, 0, 14) := ⟨t_840, t_841, t_842, by decide +kernel, by decide, yP_14⟩
theorem lk_8_213 : lkP 8 (213, 0, 15) := ⟨t_848, t_849, t_850, by decide +kernel, by decide, yP_15⟩
theorem lk_8_216 : lkP 8 (216, 0, 71) := ⟨t_769, t_770, t_771, by decide +kernel, by decide, yP_71⟩
theorem lk_8_224 : lkP 8 (224, 0, 118) := ⟨t_864, t_866, ts_46, by decide +kernel, by decide, yP_118⟩
theorem lk_8_228 : lkP 8 (228, 0, 130) := ⟨t_868, t_870, ts_47, by decide +kernel, by decide, yP_130⟩
theorem lk_8_232 : lkP 8 (232, 0, 124) := ⟨t_788, t_790, ts_42, by decide +kernel, by decide, yP_124⟩
theorem lk_8_235 : lkP 8 (235, 0, 119) := ⟨t_896, t_898, ts_50, by decide +kernel, by decide, yP_119⟩
theorem lk_8_238 : lkP 8 (238, 0, 133) := ⟨t_900, t_902, ts_51, by decide +kernel, by decide, yP_133⟩
theorem lk_8_246 : lkP 8 (246, 1, 137) := ⟨t_921, t_922, by decide +kernel, yP_137⟩
theorem lk_8_250 : lkP 8 (250, 0, 3) := ⟨t_928, t_929, t_930, by decide +kernel, by decide, yP_3⟩
theorem lk_8_257 : lkP 8 (257, 0, 6) := ⟨t_936, t_937, t_938, by decide +kernel, by decide, yP_6⟩
theorem lk_8_263 : lkP 8 (263, 0, 7) := ⟨t_951, t_952, t_953, by decide +kernel, by decide, yP_7⟩
theorem lk_8_273 : lkP 8 (273, 0, 24) := ⟨t_959, t_960, t_961, by decide +kernel, by decide, yP_24⟩
theorem lk_8_278 : lkP 8 (278, 1, 123) := ⟨t_824, t_825, by decide +kernel, yP_123⟩
theorem lk_8_281 : lkP 8 (281, 0, 115) := ⟨t_967, t_969, ts_55, by decide +kernel, by decide, yP_115⟩
theorem lk_8_289 : lkP 8 (289, 0, 135) := ⟨t_976, t_978, ts_56, by decide +kernel, by decide, yP_135⟩
theorem lk_8_292 : lkP 8 (292, 0, 136) := ⟨t_984, t_986, ts_57, by decide +kernel, by decide, yP_136⟩
theorem lk_8_295 : lkP 8 (295, 0, 25) := ⟨t_992, t_993, t_994, by decide +kernel, by decide, yP_25⟩
theorem lk_8_298 : lkP 8 (298, 8, 0) := t_996
theorem lk_8_305 : lkP 8 (305, 0, 134) := ⟨t_1014, t_1016, ts_58, by decide +kernel, by decide, yP_134⟩
theorem lk_8_309 : lkP 8 (309, 0, 72) := ⟨t_1018, t_1019, t_1020, by decide +kernel, by decide, yP_72⟩
theorem lk_8_315 : lkP 8 (315, 7, 0) := t_717
theorem lk_8_321 : lkP 8 (321, 0, 23) := ⟨t_820, t_821, t_822, by decide +kernel, by decide, yP_23⟩
theorem lk_8_324 : lkP 8 (324, 6, 0) := t_827
theorem lk_8_327 : lkP 8 (327, 0, 22) := ⟨t_792, t_793, t_794, by decide +kernel, by decide, yP_22⟩
theorem lk_8_334 : lkP 8 (334, 1, 125) := ⟨t_765, t_766, by decide +kernel, yP_125⟩
theorem lk_8_337 : lkP 8 (337, 0, 126) := ⟨t_761, t_763, ts_38, by decide +kernel, by decide, yP_126⟩
theorem lk_8_340 : lkP 8 (340, 0, 129) := ⟨t_804, t_806, ts_44, by decide +kernel, by decide, yP_129⟩
theorem lk_8_343 : lkP 8 (343, 0, 131) := ⟨t_872, t_874, ts_48, by decide +kernel, by decide, yP_131⟩
theorem lk_8_346 : lkP 8 (346, 0, 132) := ⟨t_876, t_878, ts_49, by decide +kernel, by decide, yP_132⟩
theorem lk_8_349 : lkP 8 (349, 0, 1) := ⟨t_904, t_905, t_906, by decide +kernel, by decide, yP_1⟩
theorem lk_8_352 : lkP 8 (352, 1, 4) := ⟨t_1023, t_918, by decide +kernel, yP_4⟩
set_option maxRecDepth 20000 in
theorem lk_8 : ∀ q ∈ lnk8, lkP 8 q := List.forall_mem_cons.mpr ⟨lk_8_3, List.forall_mem_cons.mpr ⟨lk_8_11, List.forall_mem_cons.mpr ⟨lk_8_18, List.forall_mem_cons.mpr ⟨lk_8_27, List.forall_mem_cons.mpr ⟨lk_8_34, List.forall_mem_cons.mpr ⟨lk_8_41, List.forall_mem_cons.mpr ⟨lk_8_48, List.forall_mem_cons.mpr ⟨lk_8_72, List.forall_mem_cons.mpr ⟨lk_8_84, List.forall_mem_cons.mpr ⟨lk_8_87, List.forall_mem_cons.mpr ⟨lk_8_91, List.forall_mem_cons.mpr ⟨lk_8_95, List.forall_mem_cons.mpr ⟨lk_8_98, List.forall_mem_cons.mpr ⟨lk_8_106, List.forall_mem_cons.mpr ⟨lk_8_122, List.forall_mem_cons.mpr ⟨lk_8_132, List.forall_mem_cons.mpr ⟨lk_8_136, List.forall_mem_cons.mpr ⟨lk_8_146, List.forall_mem_cons.mpr ⟨lk_8_150, List.forall_mem_cons.mpr ⟨lk_8_172, List.forall_mem_cons.mpr ⟨lk_8_176, List.forall_mem_cons.mpr ⟨lk_8_179, List.forall_mem_cons.mpr ⟨lk_8_182, List.forall_mem_cons.mpr ⟨lk_8_185, List.forall_mem_cons.mpr ⟨lk_8_188, List.forall_mem_cons.mpr ⟨lk_8_194, List.forall_mem_cons.mpr ⟨lk_8_199, List.forall_mem_cons.mpr ⟨lk_8_203, List.forall_mem_cons.mpr ⟨lk_8_206, List.forall_mem_cons.mpr ⟨lk_8_213, List.forall_mem_cons.mpr ⟨lk_8_216, List.forall_mem_cons.mpr ⟨lk_8_224, List.forall_mem_cons.mpr ⟨lk_8_228, List.forall_mem_cons.mpr ⟨lk_8_232, List.forall_mem_cons.mpr ⟨lk_8_235, List.forall_mem_cons.mpr ⟨lk_8_238, List.forall_mem_cons.mpr ⟨lk_8_246, List.forall_mem_cons.mpr ⟨lk_8_250, List.forall_mem_cons.mpr ⟨lk_8_257, List.forall_mem_cons.mpr ⟨lk_8_263, List.forall_mem_cons.mpr ⟨lk_8_273, List.forall_mem_cons.mpr ⟨lk_8_278, List.forall_mem_cons.mpr ⟨lk_8_281, List.forall_mem_cons.mpr ⟨lk_8_289, List.forall_mem_cons.mpr ⟨lk_8_292, List.forall_mem_cons.mpr ⟨lk_8_295, List.forall_mem_cons.mpr ⟨lk_8_298, List.forall_mem_cons.mpr ⟨lk_8_305, List.forall_mem_cons.mpr ⟨lk_8_309, List.forall_mem_cons.mpr ⟨lk_8_315, List.forall_mem_cons.mpr ⟨lk_8_321, List.forall_mem_cons.mpr ⟨lk_8_324, List.forall_mem_cons.mpr ⟨lk_8_327, List.forall_mem_cons.mpr ⟨lk_8_334, List.forall_mem_cons.mpr ⟨lk_8_337, List.forall_mem_cons.mpr ⟨lk_8_340, List.forall_mem_cons.mpr ⟨lk_8_343, List.forall_mem_cons.mpr ⟨lk_8_346, List.forall_mem_cons.mpr ⟨lk_8_349, List.forall_mem_cons.mpr ⟨lk_8_352, fun _ h => absurd h List.not_mem_nil⟩⟩⟩⟩⟩⟩⟩⟩⟩⟩⟩⟩⟩⟩⟩⟩⟩⟩⟩⟩⟩⟩⟩⟩⟩⟩⟩⟩⟩⟩⟩⟩⟩⟩⟩⟩⟩⟩⟩⟩⟩⟩⟩⟩⟩⟩⟩⟩⟩⟩⟩⟩⟩⟩⟩⟩⟩⟩⟩⟩
theorem lk_9_7 : lkP 9 (7, 4, 0) := t_1033
theorem lk_9_176 : lkP 9 (176, 0, 155) := ⟨t_1034, t_1036, ts_59, by decide +kernel, by decide, yP_155⟩
theorem lk_9_180 : lkP 9 (180, 1, 146) := ⟨t_1038, t_1039, by decide +kernel, yP_146⟩
theorem lk_9_184 : lkP 9 (184, 0, 185) := ⟨t_1045, t_1047, ts_60, by decide +kernel, by decide, yP_185⟩
theorem lk_9_187 : lkP 9 (187, 0, 187) := ⟨t_1053, t_1055, ts_62, by decide +kernel, by decide, yP_187⟩
theorem lk_9_193 : lkP 9 (193, 0, 140) := ⟨t_1286, t_1288, ts_63, by decide +kernel, by decide, yP_140⟩
theorem lk_9_201 : lkP 9 (201, 1, 145) := ⟨t_1041, t_1042, by decide +kernel, yP_145⟩
theorem lk_9_208 : lkP 9 (208, 0, 142) := ⟨t_1302, t_1304, ts_65, by decide +kernel, by decide, yP_142⟩
theorem lk_9_212 : lkP 9 (212, 0, 147) := ⟨t_1306, t_1308, ts_66, by decide +kernel, by decide, yP_147⟩
theorem lk_9_216 : lkP 9 (216, 1, 144) := ⟨t_1310, t_1311, by decide +kernel, yP_144⟩
theorem lk_9_220 : lkP 9 (220, 1, 143) := ⟨t_1313, t_1314, by decide +kernel, yP_143⟩
theorem lk_9_223 : lkP 9 (223, 0, 149) := ⟨t_1316, t_1318, ts_67, by decide +kernel, by decide, yP_149⟩
theorem lk_9_242 : lkP 9 (242, 0, 151) := ⟨t_1332, t_1334, ts_71, by decide +kernel, by decide, yP_151⟩
theorem lk_9_245 : lkP 9 (245, 0, 150) := ⟨t_1320, t_1322, ts_68, by decide +kernel, by decide, yP_150⟩
theorem lk_9_248 : lkP 9 (248, 0, 153) := ⟨t_1336, t_1338, ts_72, by decide +kernel, by decide, yP_153⟩
theorem lk_9_251 : lkP 9 (251, 0, 148) := ⟨t_1298, t_1300, ts_64, by decide +kernel, by decide, yP_148⟩
theorem lk_9_272 : lkP 9 (272, 0, 159) := ⟨t_1324, t_1326, ts_69, by decide +kernel, by decide, yP_159⟩
theorem lk_9_281 : lkP 9 (281, 0, 158) := ⟨t_1328, t_1330, ts_70, by decide +kernel, by decide, yP_158⟩
theorem lk_9_285 : lkP 9 (285, 0, 164) := ⟨t_1340, t_1342, ts_73, by decide +kernel, by decide, yP_164⟩
theorem lk_9_288 : lkP 9 (288, 0, 165) := ⟨t_1364, t_1366, ts_79, by decide +kernel, by decide, yP_165⟩
theorem lk_9_291 : lkP 9 (291, 0, 166) := ⟨t_1372, t_1374, ts_81, by decide +kernel, by decide, yP_166⟩
theorem lk_9_294 : lkP 9 (294, 0, 167) := ⟨t_1376, t_1378, ts_82, by decide +kernel, by decide, yP_167⟩
theorem lk_9_297 : lkP 9 (297, 0, 168) := ⟨t_1380, t_1382, ts_83, by decide +kernel, by decide, yP_168⟩
theorem lk_9_300 : lkP 9 (300, 0, 169) := ⟨t_1384, t_1386, ts_84, by decide +kernel, by decide, yP_169⟩
theorem lk_9_303 : lkP 9 (303, 0, 163) := ⟨t_1356, t_1358, ts_77, by decide +kernel, by decide, yP_163⟩
theorem lk_9_307 : lkP 9 (307, 0, 154) := ⟨t_1348, t_1350, ts_75, by decide +kernel, by decide, yP_154⟩
theorem lk_9_310 : lkP 9 (310, 0, 170) := ⟨t_1388, t_1390, ts_85, by decide +kernel, by decide, yP_170⟩
theorem lk_9_313 : lkP 9 (313, 0, 152) := ⟨t_1352, t_1354, ts_76, by decide +kernel, by decide, yP_152⟩
theorem lk_9_316 : lkP 9 (316, 0, 160) := ⟨t_1344, t_1346, ts_74, by decide +kernel, by decide, yP_160⟩
theorem lk_9_320 : lkP 9 (320, 0, 161) := ⟨t_1360, t_1362, ts_78, by decide +kernel, by decide, yP_161⟩
theorem lk_9_324 : lkP 9 (324, 0, 162) := ⟨t_1368, t_1370, ts_80, by decide +kernel, by decide, yP_162⟩
theorem lk_9_327 : lkP 9 (327, 0, 174) := ⟨t_1392, t_1394, ts_86, by decide +kernel, by decide, yP_174⟩
theorem lk_9_330 : lkP 9 (330, 0, 171) := ⟨t_1408, t_1410, ts_90, by decide +kernel, by decide, yP_171⟩
theorem lk_9_336 : lkP 9 (336, 0, 172) := ⟨t_1400, t_1402, ts_88, by decide +kernel, by decide, yP_172⟩
theorem lk_9_339 : lkP 9 (339, 0, 175) := ⟨t_1396, t_1398, ts_87, by decide +kernel, by decide, yP_175⟩
theorem lk_9_342 : lkP 9 (342, 0, 173) := ⟨t_1404, t_1406, ts_89, by decide +kernel, by decide, yP_173⟩
theorem lk_9_350 : lkP 9 (350, 1, 177) := ⟨t_1424, t_1425, by decide +kernel, yP_177⟩
theorem lk_9_354 : lkP 9 (354, 0, 186) := ⟨t_1049, t_1051, ts_61, by decide +kernel, by decide, yP_186⟩
theorem lk_9_358 : lkP 9 (358, 1, 189) := ⟨t_1501, t_1502, by decide +kernel, yP_189⟩
theorem lk_9_361 : lkP 9 (361, 1, 178) := ⟨t_1464, t_1465, by decide +kernel, yP_178⟩
theorem lk_9_364 : lkP 9 (364, 0, 176) := ⟨t_1521, t_1523, ts_107, by decide +kernel, by decide, yP_176⟩
theorem lk_9_367 : lkP 9 (367, 0, 192) := ⟨t_1513, t_1515, ts_105, by decide +kernel, by decide, yP_192⟩
theorem lk_9_370 : lkP 9 (370, 0, 191) := ⟨t_1460, t_1462, ts_98, by decide +kernel, by decide, yP_191⟩
theorem lk_9_373 : lkP 9 (373, 0, 193) := ⟨t_1517, t_1519, ts_106, by decide +kernel, by decide, yP_193⟩
theorem lk_9_376 : lkP 9 (376, 1, 194) := ⟨t_1541, t_1542, by decide +kernel, yP_194⟩
theorem lk_9_379 : lkP 9 (379, 0, 182) := ⟨t_1427, t_1429, ts_92, by decide +kernel, by decide, yP_182⟩
theorem lk_9_382 : lkP 9 (382, 0, 183) := ⟨t_1431, t_1433, ts_93, by decide +kernel, by decide, yP_183⟩
theorem lk_9_385 : lkP 9 (385, 0, 184) := ⟨t_1443, t_1445, ts_95, by decide +kernel, by decide, yP_184⟩
theorem lk_9_388 : lkP 9 (388, 1, 197) := ⟨t_1494, t_1495, by decide +kernel, yP_197⟩
theorem lk_9_391 : lkP 9 (391, 0, 195) := ⟨t_1509, t_1511, ts_104, by decide +kernel, by decide, yP_195⟩
theorem lk_9_395 : lkP 9 (395, 0, 199) := ⟨t_1525, t_1527, ts_108, by decide +kernel, by decide, yP_199⟩
theorem lk_9_398 : lkP 9 (398, 0, 198) := ⟨t_1490, t_1492, ts_101, by decide +kernel, by decide, yP_198⟩
theorem lk_9_401 : lkP 9 (401, 0, 190) := ⟨t_1497, t_1499, ts_102, by decide +kernel, by decide, yP_190⟩
theorem lk_9_404 : lkP 9 (404, 0, 200) := ⟨t_1505, t_1507, ts_103, by decide +kernel, by decide, yP_200⟩
theorem lk_9_407 : lkP 9 (407, 0, 179) := ⟨t_1420, t_1422, ts_91, by decide +kernel, by decide, yP_179⟩
theorem lk_9_410 : lkP 9 (410, 0, 203) := ⟨t_1439, t_1441, ts_94, by decide +kernel, by decide, yP_203⟩
theorem lk_9_414 : lkP 9 (414, 0, 180) := ⟨t_1451, t_1453, ts_96, by decide +kernel, by decide, yP_180⟩
theorem lk_9_418 : lkP 9 (418, 0, 188) := ⟨t_1456, t_1458, ts_97, by decide +kernel, by decide, yP_188⟩
theorem lk_9_421 : lkP 9 (421, 1, 181) := ⟨t_1475, t_1476, by decide +kernel, yP_181⟩
theorem lk_9_424 : lkP 9 (424, 0, 207) := ⟨t_1478, t_1480, ts_99, by decide +kernel, by decide, yP_207⟩
theorem lk_9_427 : lkP 9 (427, 0, 201) := ⟨t_1486, t_1488, ts_100, by decide +kernel, by decide, yP_201⟩
theorem lk_9_430 : lkP 9 (430, 0, 196) := ⟨t_1537, t_1539, ts_109, by decide +kernel, by decide, yP_196⟩
theorem lk_9_433 : lkP 9 (433, 0, 216) := ⟨t_1560, t_1562, ts_110, by decide +kernel, by decide, yP_216⟩
theorem lk_9_437 : lkP 9 (437, 0, 215) := ⟨t_1564, t_1566, ts_111, by decide +kernel, by decide, yP_215⟩
theorem lk_9_441 : lkP 9 (441, 1, 222) := ⟨t_1592, t_1593, by decide +kernel, yP_222⟩
theorem lk_9_444 : lkP 9 (444, 0, 221) := ⟨t_1595, t_1597, ts_114, by decide +kernel, by decide, yP_221⟩
theorem lk_9_447 : lkP 9 (447, 1, 224) := ⟨t_1602, t_1603, by decide +kernel, yP_224⟩
theorem lk_9_450 : lkP 9 (450, 0, 226) := ⟨t_1584, t_1586, ts_112, by decide +kernel, by decide, yP_226⟩
theorem lk_9_453 : lkP 9 (453, 0, 223) := ⟨t_1588, t_1590, ts_113, by decide +kernel, by decide, yP_223⟩
theorem lk_9_456 : lkP 9 (456, 1, 225) := ⟨t_1599, t_1600, by decide +kernel, yP_225⟩
theorem lk_9_460 : lkP 9 (460, 1, 229) := ⟨t_1617, t_1618, by decide +kernel, yP_229⟩
theorem lk_9_466 : lkP 9 (466, 0, 230) := ⟨t_1620, t_1622, ts_116, by decide +kernel, by decide, yP_230⟩
theorem lk_9_472 : lkP 9 (472, 0, 231) := ⟨t_1613, t_1615, ts_115, by decide +kernel, by decide, yP_231⟩
theorem lk_9_475 : lkP 9 (475, 0, 233) := ⟨t_1636, t_1638, ts_119, by decide +kernel, by decide, yP_233⟩
theorem lk_9_478 : lkP 9 (478, 0, 234) := ⟨t_1632, t_1634, ts_118, by decide +kernel, by decide, yP_234⟩
theorem lk_9_484 : lkP 9 (484, 0, 235) := ⟨t_1628, t_1630, ts_117, by decide +kernel, by decide, yP_235⟩
theorem lk_9_487 : lkP 9 (487, 0, 237) := ⟨t_1644, t_1646, ts_120, by decide +kernel, by decide, yP_237⟩
theorem lk_9_490 : lkP 9 (490, 0, 238) := ⟨t_1648, t_1650, ts_121, by decide +kernel, by decide, yP_238⟩
theorem lk_9_493 : lkP 9 (493, 0, 241) := ⟨t_1660, t_1662, ts_122, by decide +kernel, by decide, yP_241⟩
theorem lk_9_496 : lkP 9 (496, 0, 243) := ⟨t_1672, t_1674, ts_124, by decide +kernel, by decide, yP_243⟩
theorem lk_9_499 : lkP 9 (499, 0, 244) := ⟨t_1668, t_1670, ts_123, by decide +kernel, by decide, yP_244⟩
theorem lk_9_502 : lkP 9 (502, 0, 251) := ⟨t_1696, t_1698, ts_126, by decide +kernel, by decide, yP_251⟩
theorem lk_9_505 : lkP 9 (505, 0, 249) := ⟨t_1692, t_1694, ts_125, by decide +kernel, by decide, yP_249⟩
set_option maxRecDepth 20000 in
theorem lk_9 : ∀ q ∈ lnk9, lkP 9 q := List.forall_mem_cons.mpr ⟨lk_9_7, List.forall_mem_cons.mpr ⟨lk_9_176, List.forall_mem_cons.mpr ⟨lk_9_180, List.forall_mem_cons.mpr ⟨lk_9_184, List.forall_mem_cons.mpr ⟨lk_9_187, List.forall_mem_cons.mpr ⟨lk_9_193, List.forall_mem_cons.mpr ⟨lk_9_201, List.forall_mem_cons.mpr ⟨lk_9_208, List.forall_mem_cons.mpr ⟨lk_9_212, List.forall_mem_cons.mpr ⟨lk_9_216, List.forall_mem_cons.mpr ⟨lk_9_220, List.forall_mem_cons.mpr ⟨lk_9_223, List.forall_mem_cons.mpr ⟨lk_9_242, List.forall_mem_cons.mpr ⟨lk_9_245, List.forall_mem_cons.mpr ⟨lk_9_248, List.forall_mem_cons.mpr ⟨lk_9_251, List.forall_mem_cons.mpr ⟨lk_9_272, List.forall_mem_cons.mpr ⟨lk_9_281, List.forall_mem_cons.mpr ⟨lk_9_285, List.forall_mem_cons.mpr ⟨lk_9_288, List.forall_mem_cons.mpr ⟨lk_9_291, List.forall_mem_cons.mpr ⟨lk_9_294, List.forall_mem_cons.mpr ⟨lk_9_297, List.forall_mem_cons.mpr ⟨lk_9_300, List.forall_mem_cons.mpr ⟨lk_9_303, List.forall_mem_cons.mpr ⟨lk_9_307, List.forall_mem_cons.mpr ⟨lk_9_310, List.forall_mem_cons.mpr ⟨lk_9_313, List.forall_mem_cons.mpr ⟨lk_9_316, List.forall_mem_cons.mpr ⟨lk_9_320, List.forall_mem_cons.mpr ⟨lk_9_324, List.forall_mem_cons.mpr ⟨lk_9_327, List.forall_mem_cons.mpr ⟨lk_9_330, List.forall_mem_cons.mpr ⟨lk_9_336, List.forall_mem_cons.mpr ⟨lk_9_339, List.forall_mem_cons.mpr ⟨lk_9_342, List.forall_mem_cons.mpr ⟨lk_9_350, List.forall_mem_cons.mpr ⟨lk_9_354, List.forall_mem_cons.mpr ⟨lk_9_358, List.forall_mem_cons.mpr ⟨lk_9_361, List.forall_mem_cons.mpr ⟨lk_9_364, List.forall_mem_cons.mpr ⟨lk_9_367, List.forall_mem_cons.mpr ⟨lk_9_370, List.forall_mem_cons.mpr ⟨lk_9_373, List.forall_mem_cons.mpr ⟨lk_9_376, List.forall_mem_cons.mpr ⟨lk_9_379, List.forall_mem_cons.mpr ⟨lk_9_382, List.forall_mem_cons.mpr ⟨lk_9_385, List.forall_mem_cons.mpr ⟨lk_9_388, List.forall_mem_cons.mpr ⟨lk_9_391, List.forall_mem_cons.mpr ⟨lk_9_395, List.forall_mem_cons.mpr ⟨lk_9_398, List.forall_mem_cons.mpr ⟨lk_9_401, List.forall_mem_cons.mpr ⟨lk_9_404, List.forall_mem_cons.mpr ⟨lk_9_407, List.forall_mem_cons.mpr ⟨lk_9_410, List.forall_mem_cons.mpr ⟨lk_9_414, List.forall_mem_cons.mpr ⟨lk_9_418, List.forall_mem_cons.mpr ⟨lk_9_421, List.forall_mem_cons.mpr ⟨lk_9_424, List.forall_mem_cons.mpr ⟨lk_9_427, List.forall_mem_cons.mpr ⟨lk_9_430, List.forall_mem_cons.mpr ⟨lk_9_433, List.forall_mem_cons.mpr ⟨lk_9_437, List.forall_mem_cons.mpr ⟨lk_9_441, List.forall_mem_cons.mpr ⟨lk_9_444, List.forall_mem_cons.mpr ⟨lk_9_447, List.forall_mem_cons.mpr ⟨lk_9_450, List.forall_mem_cons.mpr ⟨lk_9_453, List.forall_mem_cons.mpr ⟨lk_9_456, List.forall_mem_cons.mpr ⟨lk_9_460, List.forall_mem_cons.mpr ⟨lk_9_466, List.forall_mem_cons.mpr ⟨lk_9_472, List.forall_mem_cons.mpr ⟨lk_9_475, List.forall_mem_cons.mpr ⟨lk_9_478, List.forall_mem_cons.mpr ⟨lk_9_484, List.forall_mem_cons.mpr ⟨lk_9_487, List.forall_mem_cons.mpr ⟨lk_9_490, List.forall_mem_cons.mpr ⟨lk_9_493, List.forall_mem_cons.mpr ⟨lk_9_496, List.forall_mem_cons.mpr ⟨lk_9_499, List.forall_mem_cons.mpr ⟨lk_9_502, List.forall_mem_cons.mpr ⟨lk_9_505, fun _ h => absurd h List.not_mem_nil⟩⟩⟩⟩⟩⟩⟩⟩⟩⟩⟩⟩⟩⟩⟩⟩⟩⟩⟩⟩⟩⟩⟩⟩⟩⟩⟩⟩⟩⟩⟩⟩⟩⟩⟩⟩⟩⟩⟩⟩⟩⟩⟩⟩⟩⟩⟩⟩⟩⟩⟩⟩⟩⟩⟩⟩⟩⟩⟩⟩⟩⟩⟩⟩⟩⟩⟩⟩⟩⟩⟩⟩⟩⟩⟩⟩⟩⟩⟩⟩⟩⟩⟩
theorem lk_10_9 : lkP 10 (9, 2, 75) := ⟨t_22, t_23, rfl, by decide +kernel, by decide, yP_75, rfl⟩
theorem lk_10_12 : lkP 10 (12, 2, 138) := ⟨t_1030, t_1031, rfl, by decide +kernel, by decide, yP_138, rfl⟩
theorem lk_10_13 : lkP 10 (13, 0, 76) := ⟨t_449, t_450, t_451, by decide +kernel, by decide, yP_76⟩
theorem lk_10_17 : lkP 10 (17, 0, 139) := ⟨t_1282, t_1283, t_1284, by decide +kernel, by decide, yP_139⟩
theorem lk_10_18 : lkP 10 (18, 0, 77) := ⟨t_457, t_458, t_459, by decide +kernel, by decide, yP_77⟩
theorem lk_10_22 : lkP 10 (22, 0, 141) := ⟨t_1290, t_1291, t_1292, by decide +kernel, by decide, yP_141⟩
theorem lk_10_23 : lkP 10 (23, 0, 78) := ⟨t_461, t_462, t_463, by decide +kernel, by decide, yP_78⟩
theorem lk_10_27 : lkP 10 (27, 0, 156) := ⟨t_1294, t_1295, t_1296, by decide +kernel, by decide, yP_156⟩
theorem lk_10_28 : lkP 10 (28, 0, 79) := ⟨t_675, t_676, t_677, by decide +kernel, by decide, yP_79⟩
theorem lk_10_31 : lkP 10 (31, 0, 157) := ⟨t_1412, t_1413, t_1414, by decide +kernel, by decide, yP_157⟩
theorem lk_10_32 : lkP 10 (32, 0, 80) := ⟨t_679, t_680, t_681, by decide +kernel, by decide, yP_80⟩
theorem lk_10_36 : lkP 10 (36, 0, 202) := ⟨t_1416, t_1417, t_1418, by decide +kernel, by decide, yP_202⟩
theorem lk_10_37 : lkP 10 (37, 0, 81) := ⟨t_687, t_688, t_689, by decide +kernel, by decide, yP_81⟩
theorem lk_10_41 : lkP 10 (41, 0, 204) := ⟨t_1435, t_1436, t_1437, by decide +kernel, by decide, yP_204⟩
theorem lk_10_42 : lkP 10 (42, 0, 82) := ⟨t_695, t_696, t_697, by decide +kernel, by decide, yP_82⟩
theorem lk_10_45 : lkP 10 (45, 0, 205) := ⟨t_1447, t_1448, t_1449, by decide +kernel, by decide, yP_205⟩
theorem lk_10_46 : lkP 10 (46, 0, 83) := ⟨t_718, t_719, t_720, by decide +kernel, by decide, yP_83⟩
theorem lk_10_49 : lkP 10 (49, 0, 206) := ⟨t_1467, t_1468, t_1469, by decide +kernel, by decide, yP_206⟩
theorem lk_10_50 : lkP 10 (50, 0, 85) := ⟨t_734, t_735, t_736, by decide +kernel, by decide, yP_85⟩
theorem lk_10_54 : lkP 10 (54, 0, 208) := ⟨t_1471, t_1472, t_1473, by decide +kernel, by decide, yP_208⟩
theorem lk_10_55 : lkP 10 (55, 0, 86) := ⟨t_753, t_754, t_755, by decide +kernel, by decide, yP_86⟩
theorem lk_10_58 : lkP 10 (58, 0, 209) := ⟨t_1482, t_1483, t_1484, by decide +kernel, by decide, yP_209⟩
theorem lk_10_59 : lkP 10 (59, 0, 87) := ⟨t_808, t_809, t_810, by decide +kernel, by decide, yP_87⟩
theorem lk_10_62 : lkP 10 (62, 0, 210) := ⟨t_1529, t_1530, t_1531, by decide +kernel, by decide, yP_210⟩
theorem lk_10_63 : lkP 10 (63, 0, 88) := ⟨t_812, t_813, t_814, by decide +kernel, by decide, yP_88⟩
theorem lk_10_66 : lkP 10 (66, 0, 211) := ⟨t_1533, t_1534, t_1535, by decide +kernel, by decide, yP_211⟩
theorem lk_10_67 : lkP 10 (67, 0, 89) := ⟨t_828, t_829, t_830, by decide +kernel, by decide, yP_89⟩
theorem lk_10_71 : lkP 10 (71, 0, 212) := ⟨t_1544, t_1545, t_1546, by decide +kernel, by decide, yP_212⟩
theorem lk_10_72 : lkP 10 (72, 0, 92) := ⟨t_852, t_853, t_854, by decide +kernel, by decide, yP_92⟩
theorem lk_10_76 : lkP 10 (76, 0, 213) := ⟨t_1548, t_1549, t_1550, by decide +kernel, by decide, yP_213⟩
theorem lk_10_77 : lkP 10 (77, 0, 93) := ⟨t_856, t_857, t_858, by decide +kernel, by decide, yP_93⟩
theorem lk_10_80 : lkP 10 (80, 0, 214) := ⟨t_1552, t_1553, t_1554, by decide +kernel, by decide, yP_214⟩
theorem lk_10_81 : lkP 10 (81, 0, 94) := ⟨t_860, t_861, t_862, by decide +kernel, by decide, yP_94⟩
theorem lk_10_84 : lkP 10 (84, 0, 217) := ⟨t_1556, t_1557, t_1558, by decide +kernel, by decide, yP_217⟩
theorem lk_10_85 : lkP 10 (85, 0, 95) := ⟨t_880, t_881, t_882, by decide +kernel, by decide, yP_95⟩
theorem lk_10_89 : lkP 10 (89, 0, 218) := ⟨t_1568, t_1569, t_1570, by decide +kernel, by decide, yP_218⟩
theorem lk_10_90 : lkP 10 (90, 0, 96) := ⟨t_884, t_885, t_886, by decide +kernel, by decide, yP_96⟩
theorem lk_10_93 : lkP 10 (93, 0, 219) := ⟨t_1572, t_1573, t_1574, by decide +kernel, by decide, yP_219⟩
theorem lk_10_94 : lkP 10 (94, 0, 97) := ⟨t_888, t_889, t_890, by decide +kernel, by decide, yP_97⟩
theorem lk_10_98 : lkP 10 (98, 0, 220) := ⟨t_1576, t_1577, t_1578, by decide +kernel, by decide, yP_220⟩
theorem lk_10_99 : lkP 10 (99, 0, 98) := ⟨t_892, t_893, t_894, by decide +kernel, by decide, yP_98⟩
theorem lk_10_103 : lkP 10 (103, 0, 227) := ⟨t_1580, t_1581, t_1582, by decide +kernel, by decide, yP_227⟩
theorem lk_10_104 : lkP 10 (104, 0, 99) := ⟨t_924, t_925, t_926, by decide +kernel, by decide, yP_99⟩
theorem lk_10_107 : lkP 10 (107, 0, 228) := ⟨t_1605, t_1606, t_1607, by decide +kernel, by decide, yP_228⟩
theorem lk_10_108 : lkP 10 (108, 0, 100) := ⟨t_932, t_933, t_934, by decide +kernel, by decide, yP_100⟩
theorem lk_10_111 : lkP 10 (111, 0, 232) := ⟨t_1609, t_1610, t_1611, by decide +kernel, by decide, yP_232⟩
theorem lk_10_112 : lkP 10 (112, 0, 101) := ⟨t_955, t_956, t_957, by decide +kernel, by decide, yP_101⟩
theorem lk_10_115 : lkP 10 (115, 0, 236) := ⟨t_1624, t_1625, t_1626, by decide +kernel, by decide, yP_236⟩
theorem lk_10_116 : lkP 10 (116, 0, 102) := ⟨t_963, t_964, t_965, by decide +kernel, by decide, yP_102⟩
theorem lk_10_119 : lkP 10 (119, 0, 239) := ⟨t_1640, t_1641, t_1642, by decide +kernel, by decide, yP_239⟩
theorem lk_10_120 : lkP 10 (120, 0, 103) := ⟨t_972, t_973, t_974, by decide +kernel, by decide, yP_103⟩
theorem lk_10_123 : lkP 10 (123, 0, 240) := ⟨t_1652, t_1653, t_1654, by decide +kernel, by decide, yP_240⟩
theorem lk_10_124 : lkP 10 (124, 0, 104) := ⟨t_980, t_981, t_982, by decide +kernel, by decide, yP_104⟩
theorem lk_10_127 : lkP 10 (127, 0, 242) := ⟨t_1656, t_1657, t_1658, by decide +kernel, by decide, yP_242⟩
theorem lk_10_128 : lkP 10 (128, 0, 105) := ⟨t_988, t_989, t_990, by decide +kernel, by decide, yP_105⟩
theorem lk_10_131 : lkP 10 (131, 0, 245) := ⟨t_1664, t_1665, t_1666, by decide +kernel, by decide, yP_245⟩
theorem lk_10_132 : lkP 10 (132, 0, 106) := ⟨t_998, t_999, t_1000, by decide +kernel, by decide, yP_106⟩
theorem lk_10_135 : lkP 10 (135, 0, 246) := ⟨t_1676, t_1677, t_1678, by decide +kernel, by decide, yP_246⟩
theorem lk_10_136 : lkP 10 (136, 0, 107) := ⟨t_1002, t_1003, t_1004, by decide +kernel, by decide, yP_107⟩
theorem lk_10_139 : lkP 10 (139, 0, 247) := ⟨t_1680, t_1681, t_1682, by decide +kernel, by decide, yP_247⟩
theorem lk_10_140 : lkP 10 (140, 0, 108) := ⟨t_1006, t_1007, t_1008, by decide +kernel, by decide, yP_108⟩
theorem lk_10_143 : lkP 10 (143, 0, 248) := ⟨t_1684, t_1685, t_1686, by decide +kernel, by decide, yP_248⟩
theorem lk_10_144 : lkP 10 (144, 0, 109) := ⟨t_1010, t_1011, t_1012, by decide +kernel, by decide, yP_109⟩
theorem lk_10_147 : lkP 10 (147, 0, 250) := ⟨t_1688, t_1689, t_1690, by decide +kernel, by decide, yP_250⟩
theorem lk_10_148 : lkP 10 (148, 0, 110) := ⟨t_1024, t_1025, t_1026, by decide +kernel, by decide, yP_110⟩
theorem lk_10_151 : lkP 10 (151, 0, 252) := ⟨t_1700, t_1701, t_1702, by decide +kernel, by decide, yP_252⟩
theorem lk_10_152 : lkP 10 (152, 0, 90) := ⟨t_836, t_837, t_838, by decide +kernel, by decide, yP_90⟩
theorem lk_10_156 : lkP 10 (156, 0, 253) := ⟨t_1704, t_1705, t_1706, by decide +kernel, by decide, yP_253⟩
theorem lk_10_157 : lkP 10 (157, 0, 91) := ⟨t_844, t_845, t_846, by decide +kernel, by decide, yP_91⟩
theorem lk_10_160 : lkP 10 (160, 0, 254) := ⟨t_1708, t_1709, t_1710, by decide +kernel, by decide, yP_254⟩
theorem lk_10_161 : lkP 10 (161, 0, 84) := ⟨t_726, t_727, t_728, by decide +kernel, by decide, yP_84⟩
theorem lk_10_164 : lkP 10 (164, 0, 255) := ⟨t_1712, t_1713, t_1714, by decide +kernel, by decide, yP_255⟩
set_option maxRecDepth 20000 in
theorem lk_10 : ∀ q ∈ lnk10, lkP 10 q := List.forall_mem_cons.mpr ⟨lk_10_9, List.forall_mem_cons.mpr ⟨lk_10_12, List.forall_mem_cons.mpr ⟨lk_10_13, List.forall_mem_cons.mpr ⟨lk_10_17, List.forall_mem_cons.mpr ⟨lk_10_18, List.forall_mem_cons.mpr ⟨lk_10_22, List.forall_mem_cons.mpr ⟨lk_10_23, List.forall_mem_cons.mpr ⟨lk_10_27, List.forall_mem_cons.mpr ⟨lk_10_28, List.forall_mem_cons.mpr ⟨lk_10_31, List.forall_mem_cons.mpr ⟨lk_10_32, List.forall_mem_cons.mpr ⟨lk_10_36, List.forall_mem_cons.mpr ⟨lk_10_37, List.forall_mem_cons.mpr ⟨lk_10_41, List.forall_mem_cons.mpr ⟨lk_10_42, List.forall_mem_cons.mpr ⟨lk_10_45, List.forall_mem_cons.mpr ⟨lk_10_46, List.forall_mem_cons.mpr ⟨lk_10_49, List.forall_mem_cons.mpr ⟨lk_10_50, List.forall_mem_cons.mpr ⟨lk_10_54, List.forall_mem_cons.mpr ⟨lk_10_55, List.forall_mem_cons.mpr ⟨lk_10_58, List.forall_mem_cons.mpr ⟨lk_10_59, List.forall_mem_cons.mpr ⟨lk_10_62, List.forall_mem_cons.mpr ⟨lk_10_63, List.forall_mem_cons.mpr ⟨lk_10_66, List.forall_mem_cons.mpr ⟨lk_10_67, List.forall_mem_cons.mpr ⟨lk_10_71, List.forall_mem_cons.mpr ⟨lk_10_72, List.forall_mem_cons.mpr ⟨lk_10_76, List.forall_mem_cons.mpr ⟨lk_10_77, List.forall_mem_cons.mpr ⟨lk_10_80, List.forall_mem_cons.mpr ⟨lk_10_81, List.forall_mem_cons.mpr ⟨lk_10_84, List.forall_mem_cons.mpr ⟨lk_10_85, List.forall_mem_cons.mpr ⟨lk_10_89, List.forall_mem_cons.mpr ⟨lk_10_90, List.forall_mem_cons.mpr ⟨lk_10_93, List.forall_mem_cons.mpr ⟨lk_10_94, List.forall_mem_cons.mpr ⟨lk_10_98, List.forall_mem_cons.mpr ⟨lk_10_99, List.forall_mem_cons.mpr ⟨lk_10_103, List.forall_mem_cons.mpr ⟨lk_10_104, List.forall_mem_cons.mpr ⟨lk_10_107, List.forall_mem_cons.mpr ⟨lk_10_108, List.forall_mem_cons.mpr ⟨lk_10_111, List.forall_mem_cons.mpr ⟨lk_10_112, List.forall_mem_cons.mpr ⟨lk_10_115, List.forall_mem_cons.mpr ⟨lk_10_116, List.forall_mem_cons.mpr ⟨lk_10_119, List.forall_mem_cons.mpr ⟨lk_10_120, List.forall_mem_cons.mpr ⟨lk_10_123, List.forall_mem_cons.mpr ⟨lk_10_124, List.forall_mem_cons.mpr ⟨lk_10_127, List.forall_mem_cons.mpr ⟨lk_10_128, List.forall_mem_cons.mpr ⟨lk_10_131, List.forall_mem_cons.mpr ⟨lk_10_132, List.forall_mem_cons.mpr ⟨lk_10_135, List.forall_mem_cons.mpr ⟨lk_10_136, List.forall_mem_cons.mpr ⟨lk_10_139, List.forall_mem_cons.mpr ⟨lk_10_140, List.forall_mem_cons.mpr ⟨lk_10_143, List.forall_mem_cons.mpr ⟨lk_10_144, List.forall_mem_cons.mpr ⟨lk_10_147, List.forall_mem_cons.mpr ⟨lk_10_148, List.forall_mem_cons.mpr ⟨lk_10_151, List.forall_mem_cons.mpr ⟨lk_10_152, List.forall_mem_cons.mpr ⟨lk_10_156, List.forall_mem_cons.mpr ⟨lk_10_157, List.forall_mem_cons.mpr ⟨lk_10_160, List.forall_mem_cons.mpr ⟨lk_10_161, List.forall_mem_cons.mpr ⟨lk_10_164, fun _ h => absurd h List.not_mem_nil⟩⟩⟩⟩⟩⟩⟩⟩⟩⟩⟩⟩⟩⟩⟩⟩⟩⟩⟩⟩⟩⟩⟩⟩⟩⟩⟩⟩⟩⟩⟩⟩⟩⟩⟩⟩⟩⟩⟩⟩⟩⟩⟩⟩⟩⟩⟩⟩⟩⟩⟩⟩⟩⟩⟩⟩⟩⟩⟩⟩⟩⟩⟩⟩⟩⟩⟩⟩⟩⟩⟩⟩
set_option maxRecDepth 20000 in
theorem lk_11 : ∀ q ∈ lnk11, lkP 11 q := fun _ h => absurd h List.not_mem_nil
set_option maxRecDepth 20000 in
theorem lk_12 : ∀ q ∈ lnk12, lkP 12 q := fun _ h => absurd h List.not_mem_nil
theorem lk_13_335 : lkP 13 (335, 0, 261) := ⟨t_39, t_40, t_41, by decide +kernel, by decide, yP_261⟩
theorem lk_13_492 : lkP 13 (492, 0, 262) := ⟨t_49, t_50, t_51, by decide +kernel, by decide, yP_262⟩
theorem lk_13_495 : lkP 13 (495, 1, 264) := ⟨t_53, t_54, by decide +kernel, yP_264⟩
theorem lk_13_505 : lkP 13 (505, 0, 257) := ⟨t_509, t_36, t_37, by decide +kernel, by decide, yP_257⟩
theorem lk_13_633 : lkP 13 (633, 0, 260) := ⟨t_505, t_506, t_507, by decide +kernel, by decide, yP_260⟩
theorem lk_13_637 : lkP 13 (637, 1, 266) := ⟨t_510, t_511, by decide +kernel, yP_266⟩
theorem lk_13_1059 : lkP 13 (1059, 1, 270) := ⟨t_61, t_62, by decide +kernel, yP_270⟩
set_option maxRecDepth 20000 in
theorem lk_13 : ∀ q ∈ lnk13, lkP 13 q := List.forall_mem_cons.mpr ⟨lk_13_335, List.forall_mem_cons.mpr ⟨lk_13_492, List.forall_mem_cons.mpr ⟨lk_13_495, List.forall_mem_cons.mpr ⟨lk_13_505, List.forall_mem_cons.mpr ⟨lk_13_633, List.forall_mem_cons.mpr ⟨lk_13_637, List.forall_mem_cons.mpr ⟨lk_13_1059, fun _ h => absurd h List.not_mem_nil⟩⟩⟩⟩⟩⟩⟩
theorem lk_14_9 : lkP 14 (9, 1, 263) := ⟨t_56, t_57, by decide +kernel, yP_263⟩
theorem lk_14_38 : lkP 14 (38, 7, 0) := t_519
theorem lk_14_88 : lkP 14 (88, 1, 265) := ⟨t_513, t_514, by decide +kernel, yP_265⟩
theorem lk_14_92 : lkP 14 (92, 6, 0) := t_516
theorem lk_14_95 : lkP 14 (95, 1, 267) := ⟨t_522, t_523, by decide +kernel, yP_267⟩
set_option maxRecDepth 20000 in
theorem lk_14 : ∀ q ∈ lnk14, lkP 14 q := List.forall_mem_cons.mpr ⟨lk_14_9, List.forall_mem_cons.mpr ⟨lk_14_38, List.forall_mem_cons.mpr ⟨lk_14_88, List.forall_mem_cons.mpr ⟨lk_14_92, List.forall_mem_cons.mpr ⟨lk_14_95, fun _ h => absurd h List.not_mem_nil⟩⟩⟩⟩⟩
set_option maxRecDepth 20000 in
theorem lk_15 : ∀ q ∈ lnk15, lkP 15 q := fun _ h => absurd h List.not_mem_nil
set_option maxRecDepth 20000 in
theorem lk_16 : ∀ q ∈ lnk16, lkP 16 q := fun _ h => absurd h List.not_mem_nil
theorem oiP : Cond.instanceMethod objectInit ∈ tbX ∧ Cond.code objectInit ⟨#[0xb1]⟩ 1 none ∈ tbX := ⟨t_26, t_27⟩
theorem acP : Cond.native arraycopyName ∈ tbX ∧ Cond.static arraycopyName ∈ tbX ∧ Cond.initialized "java/lang/System" ∈ tbX := ⟨t_751, t_750, t_19⟩
theorem mt_max : Cond.static Lib.Math.max.name ∈ tbX ∧ Cond.initialized "java/lang/Math" ∈ tbX ∧ Cond.code Lib.Math.max.name Lib.Math.max.code 2 (some .int) ∈ tbX := ⟨t_517, t_16, t_518⟩
theorem mt_min : Cond.static Lib.Math.min.name ∈ tbX ∧ Cond.initialized "java/lang/Math" ∈ tbX ∧ Cond.code Lib.Math.min.name Lib.Math.min.code 2 (some .int) ∈ tbX := ⟨t_520, t_16, t_521⟩
theorem mt_abs : Cond.static Lib.Math.abs.name ∈ tbX ∧ Cond.initialized "java/lang/Math" ∈ tbX ∧ Cond.code Lib.Math.abs.name Lib.Math.abs.code 1 (some .int) ∈ tbX := ⟨t_782, t_16, t_783⟩
theorem cs_all : ∀ q ∈ cstL, Cond.constant (cn q.1) q.2.1 q.2.2 ∈ tbX := List.forall_mem_cons.mpr ⟨t_703, List.forall_mem_cons.mpr ⟨t_714, List.forall_mem_cons.mpr ⟨t_715, List.forall_mem_cons.mpr ⟨t_716, List.forall_mem_cons.mpr ⟨t_768, List.forall_mem_cons.mpr ⟨t_950, List.forall_mem_cons.mpr ⟨t_1455, List.forall_mem_cons.mpr ⟨t_1504, fun _ h => absurd h List.not_mem_nil⟩⟩⟩⟩⟩⟩⟩⟩
theorem cl_all : ∀ q ∈ cslL, Cond.constantLong (cn q.1) q.2.1 q.2.2 ∈ tbX := List.forall_mem_cons.mpr ⟨t_86, List.forall_mem_cons.mpr ⟨t_87, List.forall_mem_cons.mpr ⟨t_498, List.forall_mem_cons.mpr ⟨t_499, List.forall_mem_cons.mpr ⟨t_911, List.forall_mem_cons.mpr ⟨t_916, List.forall_mem_cons.mpr ⟨t_920, List.forall_mem_cons.mpr ⟨t_971, List.forall_mem_cons.mpr ⟨t_997, List.forall_mem_cons.mpr ⟨t_1044, fun _ h => absurd h List.not_mem_nil⟩⟩⟩⟩⟩⟩⟩⟩⟩⟩
theorem ck_all : ∀ q ∈ clkL, Cond.classLink (cn q.1) q.2.1 (cn q.2.2) ∈ tbX ∧ Cond.instantiable (cn q.2.2) (nfX q.2.2) ∈ tbX ∧ Cond.initialized (cn q.2.2) ∈ tbX := List.forall_mem_cons.mpr ⟨⟨t_20, t_21, t_1⟩, List.forall_mem_cons.mpr ⟨⟨t_28, t_29, t_2⟩, List.forall_mem_cons.mpr ⟨⟨t_114, t_115, t_7⟩, List.forall_mem_cons.mpr ⟨⟨t_161, t_162, t_8⟩, List.forall_mem_cons.mpr ⟨⟨t_190, t_191, t_9⟩, List.forall_mem_cons.mpr ⟨⟨t_206, t_207, t_10⟩, List.forall_mem_cons.mpr ⟨⟨t_220, t_221, t_11⟩, List.forall_mem_cons.mpr ⟨⟨t_242, t_243, t_12⟩, List.forall_mem_cons.mpr ⟨⟨t_248, t_249, t_13⟩, List.forall_mem_cons.mpr ⟨⟨t_1028, t_1029, t_15⟩, fun _ h => absurd h List.not_mem_nil⟩⟩⟩⟩⟩⟩⟩⟩⟩⟩
theorem ar_int : Cond.arrayClass .int ∈ tbX := t_112
theorem ar_long : Cond.arrayClass .long ∈ tbX := t_113
theorem ar_byte : Cond.arrayClass .byte ∈ tbX := t_111
theorem ar_boolean : Cond.arrayClass .boolean ∈ tbX := t_189
theorem us_0 : ∀ w ∈ u_ws RX0 TX0 2, w ∈ tbX := List.forall_mem_cons.mpr ⟨t_215, List.forall_mem_cons.mpr ⟨t_217, fun _ h => absurd h List.not_mem_nil⟩⟩
theorem us_1 : ∀ w ∈ u_ws RX1 TX1 4, w ∈ tbX := List.forall_mem_cons.mpr ⟨t_233, List.forall_mem_cons.mpr ⟨t_235, List.forall_mem_cons.mpr ⟨t_237, List.forall_mem_cons.mpr ⟨t_239, fun _ h => absurd h List.not_mem_nil⟩⟩⟩⟩
theorem us_2 : ∀ w ∈ u_ws RX2 TX2 6, w ∈ tbX := List.forall_mem_cons.mpr ⟨t_176, List.forall_mem_cons.mpr ⟨t_178, List.forall_mem_cons.mpr ⟨t_180, List.forall_mem_cons.mpr ⟨t_182, List.forall_mem_cons.mpr ⟨t_184, List.forall_mem_cons.mpr ⟨t_186, fun _ h => absurd h List.not_mem_nil⟩⟩⟩⟩⟩⟩
theorem us_3 : ∀ w ∈ u_ws RX3 TX3 5, w ∈ tbX := List.forall_mem_cons.mpr ⟨t_261, List.forall_mem_cons.mpr ⟨t_263, List.forall_mem_cons.mpr ⟨t_265, List.forall_mem_cons.mpr ⟨t_267, List.forall_mem_cons.mpr ⟨t_269, fun _ h => absurd h List.not_mem_nil⟩⟩⟩⟩⟩
theorem us_4 : ∀ w ∈ u_ws RX4 TX4 13, w ∈ tbX := List.forall_mem_cons.mpr ⟨t_134, List.forall_mem_cons.mpr ⟨t_136, List.forall_mem_cons.mpr ⟨t_138, List.forall_mem_cons.mpr ⟨t_140, List.forall_mem_cons.mpr ⟨t_142, List.forall_mem_cons.mpr ⟨t_144, List.forall_mem_cons.mpr ⟨t_146, List.forall_mem_cons.mpr ⟨t_148, List.forall_mem_cons.mpr ⟨t_150, List.forall_mem_cons.mpr ⟨t_152, List.forall_mem_cons.mpr ⟨t_154, List.forall_mem_cons.mpr ⟨t_156, List.forall_mem_cons.mpr ⟨t_158, fun _ h => absurd h List.not_mem_nil⟩⟩⟩⟩⟩⟩⟩⟩⟩⟩⟩⟩⟩
theorem us_5 : ∀ w ∈ u_ws RX5 TX5 20, w ∈ tbX := List.forall_mem_cons.mpr ⟨t_339, List.forall_mem_cons.mpr ⟨t_341, List.forall_mem_cons.mpr ⟨t_343, List.forall_mem_cons.mpr ⟨t_345, List.forall_mem_cons.mpr ⟨t_347, List.forall_mem_cons.mpr ⟨t_349, List.forall_mem_cons.mpr ⟨t_351, List.forall_mem_cons.mpr ⟨t_353, List.forall_mem_cons.mpr ⟨t_355, List.forall_mem_cons.mpr ⟨t_357, List.forall_mem_cons.mpr ⟨t_359, List.forall_mem_cons.mpr ⟨t_361, List.forall_mem_cons.mpr ⟨t_363, List.forall_mem_cons.mpr ⟨t_365, List.forall_mem_cons.mpr ⟨t_367, List.forall_mem_cons.mpr ⟨t_369, List.forall_mem_cons.mpr ⟨t_371, List.forall_mem_cons.mpr ⟨t_373, List.forall_mem_cons.mpr ⟨t_375, List.forall_mem_cons.mpr ⟨t_377, fun _ h => absurd h List.not_mem_nil⟩⟩⟩⟩⟩⟩⟩⟩⟩⟩⟩⟩⟩⟩⟩⟩⟩⟩⟩⟩
theorem us_6 : ∀ w ∈ u_ws RX6 TX6 6, w ∈ tbX := List.forall_mem_cons.mpr ⟨t_98, List.forall_mem_cons.mpr ⟨t_100, List.forall_mem_cons.mpr ⟨t_102, List.forall_mem_cons.mpr ⟨t_104, List.forall_mem_cons.mpr ⟨t_106, List.forall_mem_cons.mpr ⟨t_108, fun _ h => absurd h List.not_mem_nil⟩⟩⟩⟩⟩⟩
theorem us_7 : ∀ w ∈ u_ws RX7 TX7 2, w ∈ tbX := List.forall_mem_cons.mpr ⟨t_201, List.forall_mem_cons.mpr ⟨t_203, fun _ h => absurd h List.not_mem_nil⟩⟩
theorem us_8 : ∀ w ∈ u_ws RX8 TX8 15, w ∈ tbX := List.forall_mem_cons.mpr ⟨t_418, List.forall_mem_cons.mpr ⟨t_420, List.forall_mem_cons.mpr ⟨t_422, List.forall_mem_cons.mpr ⟨t_424, List.forall_mem_cons.mpr ⟨t_426, List.forall_mem_cons.mpr ⟨t_428, List.forall_mem_cons.mpr ⟨t_430, List.forall_mem_cons.mpr ⟨t_432, List.forall_mem_cons.mpr ⟨t_434, List.forall_mem_cons.mpr ⟨t_436, List.forall_mem_cons.mpr ⟨t_438, List.forall_mem_cons.mpr ⟨t_440, List.forall_mem_cons.mpr ⟨t_442, List.forall_mem_cons.mpr ⟨t_444, List.forall_mem_cons.mpr ⟨t_446, fun _ h => absurd h List.not_mem_nil⟩⟩⟩⟩⟩⟩⟩⟩⟩⟩⟩⟩⟩⟩⟩
theorem us_9 : ∀ w ∈ u_ws RX9 TX9 75, w ∈ tbX := List.forall_mem_cons.mpr ⟨t_1131, List.forall_mem_cons.mpr ⟨t_1133, List.forall_mem_cons.mpr ⟨t_1135, List.forall_mem_cons.mpr ⟨t_1137, List.forall_mem_cons.mpr ⟨t_1139, List.forall_mem_cons.mpr ⟨t_1141, List.forall_mem_cons.mpr ⟨t_1143, List.forall_mem_cons.mpr ⟨t_1145, List.forall_mem_cons.mpr ⟨t_1147, List.forall_mem_cons.mpr ⟨t_1149, List.forall_mem_cons.mpr ⟨t_1151, List.forall_mem_cons.mpr ⟨t_1153, List.forall_mem_cons.mpr ⟨t_1155, List.forall_mem_cons.mpr ⟨t_1157, List.forall_mem_cons.mpr ⟨t_1159, List.forall_mem_cons.mpr ⟨t_1161, List.forall_mem_cons.mpr ⟨t_1163, List.forall_mem_cons.mpr ⟨t_1165, List.forall_mem_cons.mpr ⟨t_1167, List.forall_mem_cons.mpr ⟨t_1169, List.forall_mem_cons.mpr ⟨t_1171, List.forall_mem_cons.mpr ⟨t_1173, List.forall_mem_cons.mpr ⟨t_1175, List.forall_mem_cons.mpr ⟨t_1177, List.forall_mem_cons.mpr ⟨t_1179, List.forall_mem_cons.mpr ⟨t_1181, List.forall_mem_cons.mpr ⟨t_1183, List.forall_mem_cons.mpr ⟨t_1185, List.forall_mem_cons.mpr ⟨t_1187, List.forall_mem_cons.mpr ⟨t_1189, List.forall_mem_cons.mpr ⟨t_1191, List.forall_mem_cons.mpr ⟨t_1193, List.forall_mem_cons.mpr ⟨t_1195, List.forall_mem_cons.mpr ⟨t_1197, List.forall_mem_cons.mpr ⟨t_1199, List.forall_mem_cons.mpr ⟨t_1201, List.forall_mem_cons.mpr ⟨t_1203, List.forall_mem_cons.mpr ⟨t_1205, List.forall_mem_cons.mpr ⟨t_1207, List.forall_mem_cons.mpr ⟨t_1209, List.forall_mem_cons.mpr ⟨t_1211, List.forall_mem_cons.mpr ⟨t_1213, List.forall_mem_cons.mpr ⟨t_1215, List.forall_mem_cons.mpr ⟨t_1217, List.forall_mem_cons.mpr ⟨t_1219, List.forall_mem_cons.mpr ⟨t_1221, List.forall_mem_cons.mpr ⟨t_1223, List.forall_mem_cons.mpr ⟨t_1225, List.forall_mem_cons.mpr ⟨t_1227, List.forall_mem_cons.mpr ⟨t_1229, List.forall_mem_cons.mpr ⟨t_1231, List.forall_mem_cons.mpr ⟨t_1233, List.forall_mem_cons.mpr ⟨t_1235, List.forall_mem_cons.mpr ⟨t_1237, List.forall_mem_cons.mpr ⟨t_1239, List.forall_mem_cons.mpr ⟨t_1241, List.forall_mem_cons.mpr ⟨t_1243, List.forall_mem_cons.mpr ⟨t_1245, List.forall_mem_cons.mpr ⟨t_1247, List.forall_mem_cons.mpr ⟨t_1249, List.forall_mem_cons.mpr ⟨t_1251, List.forall_mem_cons.mpr ⟨t_1253, List.forall_mem_cons.mpr ⟨t_1255, List.forall_mem_cons.mpr ⟨t_1257, List.forall_mem_cons.mpr ⟨t_1259, List.forall_mem_cons.mpr ⟨t_1261, List.forall_mem_cons.mpr ⟨t_1263, List.forall_mem_cons.mpr ⟨t_1265, List.forall_mem_cons.mpr ⟨t_1267, List.forall_mem_cons.mpr ⟨t_1269, List.forall_mem_cons.mpr ⟨t_1271, List.forall_mem_cons.mpr ⟨t_1273, List.forall_mem_cons.mpr ⟨t_1275, List.forall_mem_cons.mpr ⟨t_1277, List.forall_mem_cons.mpr ⟨t_1279, fun _ h => absurd h List.not_mem_nil⟩⟩⟩⟩⟩⟩⟩⟩⟩⟩⟩⟩⟩⟩⟩⟩⟩⟩⟩⟩⟩⟩⟩⟩⟩⟩⟩⟩⟩⟩⟩⟩⟩⟩⟩⟩⟩⟩⟩⟩⟩⟩⟩⟩⟩⟩⟩⟩⟩⟩⟩⟩⟩⟩⟩⟩⟩⟩⟩⟩⟩⟩⟩⟩⟩⟩⟩⟩⟩⟩⟩⟩⟩⟩⟩
-- (Jvm.Cond.fieldLink "java/lang/String" (38 : Nat) "java/lang/String" "COMPACT_STRINGS" "Z")
-- (Jvm.Cond.fieldLink "java/lang/String" (1053 : Nat) "jdk/internal/util/Preconditions" "SIOOBE_FORMATTER" "Ljava/util/function/BiFunction;")
theorem gs_38 : Cond.fieldLink "java/lang/String" 38 "java/lang/String" "COMPACT_STRINGS" "Z" ∈ tbX := t_43
theorem gs_1053 : Cond.fieldLink "java/lang/String" 1053 "jdk/internal/util/Preconditions" "SIOOBE_FORMATTER" "Ljava/util/function/BiFunction;" ∈ tbX := t_59
