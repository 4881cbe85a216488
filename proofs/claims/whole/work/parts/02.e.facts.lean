def TTX (c : Nat) : u_T := (clsX.getD c (RX9, TX9, 75)).2.1
def fdP (k : Nat) (q : Nat × Nat × Nat) : Prop := (q.2.1 < 10 → Cond.fieldLink (cn k) q.1 (TTX q.2.1 q.2.2).1 (TTX q.2.1 q.2.2).2.1 (TTX q.2.1 q.2.2).2.2.1 ∈ tbX) ∧ (q.2.1 = 13 → k = 13 ∧ (q.2.2 = 0 → Cond.fieldLink "java/lang/String" q.1 "java/lang/String" "value" "[B" ∈ tbX) ∧ (¬ q.2.2 = 0 → Cond.fieldLink "java/lang/String" q.1 "java/lang/String" "coder" "B" ∈ tbX))
theorem fd_0 : ∀ q ∈ fdt0, fdP 0 q := List.forall_mem_cons.mpr ⟨⟨fun _ => t_213, fun h => absurd h (by show ¬ 0 = 13; decide)⟩, List.forall_mem_cons.mpr ⟨⟨fun _ => t_215, fun h => absurd h (by show ¬ 0 = 13; decide)⟩, List.forall_mem_cons.mpr ⟨⟨fun _ => t_275, fun h => absurd h (by show ¬ 5 = 13; decide)⟩, List.forall_mem_cons.mpr ⟨⟨fun _ => t_280, fun h => absurd h (by show ¬ 5 = 13; decide)⟩, List.forall_mem_cons.mpr ⟨⟨fun _ => t_200, fun h => absurd h (by show ¬ 7 = 13; decide)⟩, List.forall_mem_cons.mpr ⟨⟨fun _ => t_284, fun h => absurd h (by show ¬ 5 = 13; decide)⟩, List.forall_mem_cons.mpr ⟨⟨fun _ => t_292, fun h => absurd h (by show ¬ 5 = 13; decide)⟩, fun _ h => absurd h List.not_mem_nil⟩⟩⟩⟩⟩⟩⟩
theorem fd_1 : ∀ q ∈ fdt1, fdP 1 q := List.forall_mem_cons.mpr ⟨⟨fun _ => t_227, fun h => absurd h (by show ¬ 1 = 13; decide)⟩, List.forall_mem_cons.mpr ⟨⟨fun _ => t_229, fun h => absurd h (by show ¬ 1 = 13; decide)⟩, List.forall_mem_cons.mpr ⟨⟨fun _ => t_231, fun h => absurd h (by show ¬ 1 = 13; decide)⟩, List.forall_mem_cons.mpr ⟨⟨fun _ => t_233, fun h => absurd h (by show ¬ 1 = 13; decide)⟩, fun _ h => absurd h List.not_mem_nil⟩⟩⟩⟩
theorem fd_2 : ∀ q ∈ fdt2, fdP 2 q := List.forall_mem_cons.mpr ⟨⟨fun _ => t_168, fun h => absurd h (by show ¬ 2 = 13; decide)⟩, List.forall_mem_cons.mpr ⟨⟨fun _ => t_170, fun h => absurd h (by show ¬ 2 = 13; decide)⟩, List.forall_mem_cons.mpr ⟨⟨fun _ => t_172, fun h => absurd h (by show ¬ 2 = 13; decide)⟩, List.forall_mem_cons.mpr ⟨⟨fun _ => t_173, fun h => absurd h (by show ¬ 2 = 13; decide)⟩, List.forall_mem_cons.mpr ⟨⟨fun _ => t_175, fun h => absurd h (by show ¬ 2 = 13; decide)⟩, List.forall_mem_cons.mpr ⟨⟨fun _ => t_174, fun h => absurd h (by show ¬ 2 = 13; decide)⟩, fun _ h => absurd h List.not_mem_nil⟩⟩⟩⟩⟩⟩
theorem fd_3 : ∀ q ∈ fdt3, fdP 3 q := List.forall_mem_cons.mpr ⟨⟨fun _ => t_255, fun h => absurd h (by show ¬ 3 = 13; decide)⟩, List.forall_mem_cons.mpr ⟨⟨fun _ => t_256, fun h => absurd h (by show ¬ 3 = 13; decide)⟩, List.forall_mem_cons.mpr ⟨⟨fun _ => t_257, fun h => absurd h (by show ¬ 3 = 13; decide)⟩, List.forall_mem_cons.mpr ⟨⟨fun _ => t_258, fun h => absurd h (by show ¬ 3 = 13; decide)⟩, List.forall_mem_cons.mpr ⟨⟨fun _ => t_260, fun h => absurd h (by show ¬ 3 = 13; decide)⟩, fun _ h => absurd h List.not_mem_nil⟩⟩⟩⟩⟩
theorem fd_4 : ∀ q ∈ fdt4, fdP 4 q := List.forall_mem_cons.mpr ⟨⟨fun _ => t_120, fun h => absurd h (by show ¬ 4 = 13; decide)⟩, List.forall_mem_cons.mpr ⟨⟨fun _ => t_122, fun h => absurd h (by show ¬ 4 = 13; decide)⟩, List.forall_mem_cons.mpr ⟨⟨fun _ => t_123, fun h => absurd h (by show ¬ 4 = 13; decide)⟩, List.forall_mem_cons.mpr ⟨⟨fun _ => t_124, fun h => absurd h (by show ¬ 4 = 13; decide)⟩, List.forall_mem_cons.mpr ⟨⟨fun _ => t_125, fun h => absurd h (by show ¬ 4 = 13; decide)⟩, List.forall_mem_cons.mpr ⟨⟨fun _ => t_131, fun h => absurd h (by show ¬ 4 = 13; decide)⟩, List.forall_mem_cons.mpr ⟨⟨fun _ => t_128, fun h => absurd h (by show ¬ 4 = 13; decide)⟩, List.forall_mem_cons.mpr ⟨⟨fun _ => t_127, fun h => absurd h (by show ¬ 4 = 13; decide)⟩, List.forall_mem_cons.mpr ⟨⟨fun _ => t_129, fun h => absurd h (by show ¬ 4 = 13; decide)⟩, List.forall_mem_cons.mpr ⟨⟨fun _ => t_130, fun h => absurd h (by show ¬ 4 = 13; decide)⟩, List.forall_mem_cons.mpr ⟨⟨fun _ => t_133, fun h => absurd h (by show ¬ 4 = 13; decide)⟩, List.forall_mem_cons.mpr ⟨⟨fun _ => t_134, fun h => absurd h (by show ¬ 4 = 13; decide)⟩, List.forall_mem_cons.mpr ⟨⟨fun _ => t_338, fun h => absurd h (by show ¬ 5 = 13; decide)⟩, List.forall_mem_cons.mpr ⟨⟨fun _ => t_323, fun h => absurd h (by show ¬ 5 = 13; decide)⟩, List.forall_mem_cons.mpr ⟨⟨fun _ => t_276, fun h => absurd h (by show ¬ 5 = 13; decide)⟩, List.forall_mem_cons.mpr ⟨⟨fun _ => t_281, fun h => absurd h (by show ¬ 5 = 13; decide)⟩, List.forall_mem_cons.mpr ⟨⟨fun _ => t_286, fun h => absurd h (by show ¬ 5 = 13; decide)⟩, List.forall_mem_cons.mpr ⟨⟨fun _ => t_289, fun h => absurd h (by show ¬ 5 = 13; decide)⟩, List.forall_mem_cons.mpr ⟨⟨fun _ => t_297, fun h => absurd h (by show ¬ 5 = 13; decide)⟩, List.forall_mem_cons.mpr ⟨⟨fun _ => t_294, fun h => absurd h (by show ¬ 5 = 13; decide)⟩, List.forall_mem_cons.mpr ⟨⟨fun _ => t_326, fun h => absurd h (by show ¬ 5 = 13; decide)⟩, List.forall_mem_cons.mpr ⟨⟨fun _ => t_300, fun h => absurd h (by show ¬ 5 = 13; decide)⟩, List.forall_mem_cons.mpr ⟨⟨fun _ => t_303, fun h => absurd h (by show ¬ 5 = 13; decide)⟩, List.forall_mem_cons.mpr ⟨⟨fun _ => t_329, fun h => absurd h (by show ¬ 5 = 13; decide)⟩, List.forall_mem_cons.mpr ⟨⟨fun _ => t_306, fun h => absurd h (by show ¬ 5 = 13; decide)⟩, List.forall_mem_cons.mpr ⟨⟨fun _ => t_309, fun h => absurd h (by show ¬ 5 = 13; decide)⟩, List.forall_mem_cons.mpr ⟨⟨fun _ => t_332, fun h => absurd h (by show ¬ 5 = 13; decide)⟩, List.forall_mem_cons.mpr ⟨⟨fun _ => t_312, fun h => absurd h (by show ¬ 5 = 13; decide)⟩, List.forall_mem_cons.mpr ⟨⟨fun _ => t_335, fun h => absurd h (by show ¬ 5 = 13; decide)⟩, List.forall_mem_cons.mpr ⟨⟨fun _ => t_315, fun h => absurd h (by show ¬ 5 = 13; decide)⟩, List.forall_mem_cons.mpr ⟨⟨fun _ => t_319, fun h => absurd h (by show ¬ 5 = 13; decide)⟩, List.forall_mem_cons.mpr ⟨⟨fun _ => t_261, fun h => absurd h (by show ¬ 3 = 13; decide)⟩, List.forall_mem_cons.mpr ⟨⟨fun _ => t_259, fun h => absurd h (by show ¬ 3 = 13; decide)⟩, List.forall_mem_cons.mpr ⟨⟨fun _ => t_126, fun h => absurd h (by show ¬ 4 = 13; decide)⟩, List.forall_mem_cons.mpr ⟨⟨fun _ => t_100, fun h => absurd h (by show ¬ 6 = 13; decide)⟩, List.forall_mem_cons.mpr ⟨⟨fun _ => t_96, fun h => absurd h (by show ¬ 6 = 13; decide)⟩, List.forall_mem_cons.mpr ⟨⟨fun _ => t_98, fun h => absurd h (by show ¬ 6 = 13; decide)⟩, fun _ h => absurd h List.not_mem_nil⟩⟩⟩⟩⟩⟩⟩⟩⟩⟩⟩⟩⟩⟩⟩⟩⟩⟩⟩⟩⟩⟩⟩⟩⟩⟩⟩⟩⟩⟩⟩⟩⟩⟩⟩⟩⟩
theorem fd_5 : ∀ q ∈ fdt5, fdP 5 q := List.forall_mem_cons.mpr ⟨⟨fun _ => t_273, fun h => absurd h (by show ¬ 5 = 13; decide)⟩, List.forall_mem_cons.mpr ⟨⟨fun _ => t_278, fun h => absurd h (by show ¬ 5 = 13; decide)⟩, List.forall_mem_cons.mpr ⟨⟨fun _ => t_283, fun h => absurd h (by show ¬ 5 = 13; decide)⟩, List.forall_mem_cons.mpr ⟨⟨fun _ => t_288, fun h => absurd h (by show ¬ 5 = 13; decide)⟩, List.forall_mem_cons.mpr ⟨⟨fun _ => t_291, fun h => absurd h (by show ¬ 5 = 13; decide)⟩, List.forall_mem_cons.mpr ⟨⟨fun _ => t_296, fun h => absurd h (by show ¬ 5 = 13; decide)⟩, List.forall_mem_cons.mpr ⟨⟨fun _ => t_299, fun h => absurd h (by show ¬ 5 = 13; decide)⟩, List.forall_mem_cons.mpr ⟨⟨fun _ => t_302, fun h => absurd h (by show ¬ 5 = 13; decide)⟩, List.forall_mem_cons.mpr ⟨⟨fun _ => t_305, fun h => absurd h (by show ¬ 5 = 13; decide)⟩, List.forall_mem_cons.mpr ⟨⟨fun _ => t_308, fun h => absurd h (by show ¬ 5 = 13; decide)⟩, List.forall_mem_cons.mpr ⟨⟨fun _ => t_311, fun h => absurd h (by show ¬ 5 = 13; decide)⟩, List.forall_mem_cons.mpr ⟨⟨fun _ => t_314, fun h => absurd h (by show ¬ 5 = 13; decide)⟩, List.forall_mem_cons.mpr ⟨⟨fun _ => t_316, fun h => absurd h (by show ¬ 5 = 13; decide)⟩, List.forall_mem_cons.mpr ⟨⟨fun _ => t_318, fun h => absurd h (by show ¬ 5 = 13; decide)⟩, List.forall_mem_cons.mpr ⟨⟨fun _ => t_321, fun h => absurd h (by show ¬ 5 = 13; decide)⟩, List.forall_mem_cons.mpr ⟨⟨fun _ => t_325, fun h => absurd h (by show ¬ 5 = 13; decide)⟩, List.forall_mem_cons.mpr ⟨⟨fun _ => t_328, fun h => absurd h (by show ¬ 5 = 13; decide)⟩, List.forall_mem_cons.mpr ⟨⟨fun _ => t_331, fun h => absurd h (by show ¬ 5 = 13; decide)⟩, List.forall_mem_cons.mpr ⟨⟨fun _ => t_334, fun h => absurd h (by show ¬ 5 = 13; decide)⟩, List.forall_mem_cons.mpr ⟨⟨fun _ => t_337, fun h => absurd h (by show ¬ 5 = 13; decide)⟩, fun _ h => absurd h List.not_mem_nil⟩⟩⟩⟩⟩⟩⟩⟩⟩⟩⟩⟩⟩⟩⟩⟩⟩⟩⟩⟩
theorem fd_6 : ∀ q ∈ fdt6, fdP 6 q := List.forall_mem_cons.mpr ⟨⟨fun _ => t_94, fun h => absurd h (by show ¬ 6 = 13; decide)⟩, List.forall_mem_cons.mpr ⟨⟨fun _ => t_95, fun h => absurd h (by show ¬ 6 = 13; decide)⟩, List.forall_mem_cons.mpr ⟨⟨fun _ => t_97, fun h => absurd h (by show ¬ 6 = 13; decide)⟩, List.forall_mem_cons.mpr ⟨⟨fun _ => t_99, fun h => absurd h (by show ¬ 6 = 13; decide)⟩, List.forall_mem_cons.mpr ⟨⟨fun _ => t_101, fun h => absurd h (by show ¬ 6 = 13; decide)⟩, List.forall_mem_cons.mpr ⟨⟨fun _ => t_103, fun h => absurd h (by show ¬ 6 = 13; decide)⟩, fun _ h => absurd h List.not_mem_nil⟩⟩⟩⟩⟩⟩
theorem fd_7 : ∀ q ∈ fdt7, fdP 7 q := List.forall_mem_cons.mpr ⟨⟨fun _ => t_197, fun h => absurd h (by show ¬ 7 = 13; decide)⟩, List.forall_mem_cons.mpr ⟨⟨fun _ => t_199, fun h => absurd h (by show ¬ 7 = 13; decide)⟩, List.forall_mem_cons.mpr ⟨⟨fun _ => t_322, fun h => absurd h (by show ¬ 5 = 13; decide)⟩, List.forall_mem_cons.mpr ⟨⟨fun _ => t_274, fun h => absurd h (by show ¬ 5 = 13; decide)⟩, List.forall_mem_cons.mpr ⟨⟨fun _ => t_279, fun h => absurd h (by show ¬ 5 = 13; decide)⟩, List.forall_mem_cons.mpr ⟨⟨fun _ => t_285, fun h => absurd h (by show ¬ 5 = 13; decide)⟩, List.forall_mem_cons.mpr ⟨⟨fun _ => t_293, fun h => absurd h (by show ¬ 5 = 13; decide)⟩, fun _ h => absurd h List.not_mem_nil⟩⟩⟩⟩⟩⟩⟩
theorem fd_8 : ∀ q ∈ fdt8, fdP 8 q := List.forall_mem_cons.mpr ⟨⟨fun _ => t_404, fun h => absurd h (by show ¬ 8 = 13; decide)⟩, List.forall_mem_cons.mpr ⟨⟨fun _ => t_121, fun h => absurd h (by show ¬ 4 = 13; decide)⟩, List.forall_mem_cons.mpr ⟨⟨fun _ => t_405, fun h => absurd h (by show ¬ 8 = 13; decide)⟩, List.forall_mem_cons.mpr ⟨⟨fun _ => t_406, fun h => absurd h (by show ¬ 8 = 13; decide)⟩, List.forall_mem_cons.mpr ⟨⟨fun _ => t_407, fun h => absurd h (by show ¬ 8 = 13; decide)⟩, List.forall_mem_cons.mpr ⟨⟨fun _ => t_408, fun h => absurd h (by show ¬ 8 = 13; decide)⟩, List.forall_mem_cons.mpr ⟨⟨fun _ => t_409, fun h => absurd h (by show ¬ 8 = 13; decide)⟩, List.forall_mem_cons.mpr ⟨⟨fun _ => t_410, fun h => absurd h (by show ¬ 8 = 13; decide)⟩, List.forall_mem_cons.mpr ⟨⟨fun _ => t_411, fun h => absurd h (by show ¬ 8 = 13; decide)⟩, List.forall_mem_cons.mpr ⟨⟨fun _ => t_412, fun h => absurd h (by show ¬ 8 = 13; decide)⟩, List.forall_mem_cons.mpr ⟨⟨fun _ => t_413, fun h => absurd h (by show ¬ 8 = 13; decide)⟩, List.forall_mem_cons.mpr ⟨⟨fun _ => t_414, fun h => absurd h (by show ¬ 8 = 13; decide)⟩, List.forall_mem_cons.mpr ⟨⟨fun _ => t_415, fun h => absurd h (by show ¬ 8 = 13; decide)⟩, List.forall_mem_cons.mpr ⟨⟨fun _ => t_416, fun h => absurd h (by show ¬ 8 = 13; decide)⟩, List.forall_mem_cons.mpr ⟨⟨fun _ => t_418, fun h => absurd h (by show ¬ 8 = 13; decide)⟩, List.forall_mem_cons.mpr ⟨⟨fun _ => t_102, fun h => absurd h (by show ¬ 6 = 13; decide)⟩, List.forall_mem_cons.mpr ⟨⟨fun _ => t_132, fun h => absurd h (by show ¬ 4 = 13; decide)⟩, List.forall_mem_cons.mpr ⟨⟨fun _ => t_417, fun h => absurd h (by show ¬ 8 = 13; decide)⟩, List.forall_mem_cons.mpr ⟨⟨fun _ => t_277, fun h => absurd h (by show ¬ 5 = 13; decide)⟩, List.forall_mem_cons.mpr ⟨⟨fun _ => t_282, fun h => absurd h (by show ¬ 5 = 13; decide)⟩, List.forall_mem_cons.mpr ⟨⟨fun _ => t_287, fun h => absurd h (by show ¬ 5 = 13; decide)⟩, List.forall_mem_cons.mpr ⟨⟨fun _ => t_290, fun h => absurd h (by show ¬ 5 = 13; decide)⟩, List.forall_mem_cons.mpr ⟨⟨fun _ => t_298, fun h => absurd h (by show ¬ 5 = 13; decide)⟩, List.forall_mem_cons.mpr ⟨⟨fun _ => t_295, fun h => absurd h (by show ¬ 5 = 13; decide)⟩, List.forall_mem_cons.mpr ⟨⟨fun _ => t_304, fun h => absurd h (by show ¬ 5 = 13; decide)⟩, List.forall_mem_cons.mpr ⟨⟨fun _ => t_169, fun h => absurd h (by show ¬ 2 = 13; decide)⟩, List.forall_mem_cons.mpr ⟨⟨fun _ => t_324, fun h => absurd h (by show ¬ 5 = 13; decide)⟩, List.forall_mem_cons.mpr ⟨⟨fun _ => t_327, fun h => absurd h (by show ¬ 5 = 13; decide)⟩, List.forall_mem_cons.mpr ⟨⟨fun _ => t_330, fun h => absurd h (by show ¬ 5 = 13; decide)⟩, List.forall_mem_cons.mpr ⟨⟨fun _ => t_333, fun h => absurd h (by show ¬ 5 = 13; decide)⟩, List.forall_mem_cons.mpr ⟨⟨fun _ => t_336, fun h => absurd h (by show ¬ 5 = 13; decide)⟩, List.forall_mem_cons.mpr ⟨⟨fun _ => t_176, fun h => absurd h (by show ¬ 2 = 13; decide)⟩, List.forall_mem_cons.mpr ⟨⟨fun _ => t_310, fun h => absurd h (by show ¬ 5 = 13; decide)⟩, List.forall_mem_cons.mpr ⟨⟨fun _ => t_171, fun h => absurd h (by show ¬ 2 = 13; decide)⟩, List.forall_mem_cons.mpr ⟨⟨fun _ => t_198, fun h => absurd h (by show ¬ 7 = 13; decide)⟩, List.forall_mem_cons.mpr ⟨⟨fun _ => t_201, fun h => absurd h (by show ¬ 7 = 13; decide)⟩, List.forall_mem_cons.mpr ⟨⟨fun _ => t_214, fun h => absurd h (by show ¬ 0 = 13; decide)⟩, List.forall_mem_cons.mpr ⟨⟨fun _ => t_230, fun h => absurd h (by show ¬ 1 = 13; decide)⟩, List.forall_mem_cons.mpr ⟨⟨fun _ => t_228, fun h => absurd h (by show ¬ 1 = 13; decide)⟩, List.forall_mem_cons.mpr ⟨⟨fun _ => t_232, fun h => absurd h (by show ¬ 1 = 13; decide)⟩, List.forall_mem_cons.mpr ⟨⟨fun _ => t_320, fun h => absurd h (by show ¬ 5 = 13; decide)⟩, List.forall_mem_cons.mpr ⟨⟨fun _ => t_313, fun h => absurd h (by show ¬ 5 = 13; decide)⟩, List.forall_mem_cons.mpr ⟨⟨fun _ => t_317, fun h => absurd h (by show ¬ 5 = 13; decide)⟩, List.forall_mem_cons.mpr ⟨⟨fun _ => t_301, fun h => absurd h (by show ¬ 5 = 13; decide)⟩, List.forall_mem_cons.mpr ⟨⟨fun _ => t_307, fun h => absurd h (by show ¬ 5 = 13; decide)⟩, List.forall_mem_cons.mpr ⟨⟨fun _ => t_339, fun h => absurd h (by show ¬ 5 = 13; decide)⟩, fun _ h => absurd h List.not_mem_nil⟩⟩⟩⟩⟩⟩⟩⟩⟩⟩⟩⟩⟩⟩⟩⟩⟩⟩⟩⟩⟩⟩⟩⟩⟩⟩⟩⟩⟩⟩⟩⟩⟩⟩⟩⟩⟩⟩⟩⟩⟩⟩⟩⟩⟩⟩
theorem fd_9 : ∀ q ∈ fdt9, fdP 9 q := List.forall_mem_cons.mpr ⟨⟨fun _ => t_1058, fun h => absurd h (by show ¬ 9 = 13; decide)⟩, List.forall_mem_cons.mpr ⟨⟨fun _ => t_1060, fun h => absurd h (by show ¬ 9 = 13; decide)⟩, List.forall_mem_cons.mpr ⟨⟨fun _ => t_1062, fun h => absurd h (by show ¬ 9 = 13; decide)⟩, List.forall_mem_cons.mpr ⟨⟨fun _ => t_1063, fun h => absurd h (by show ¬ 9 = 13; decide)⟩, List.forall_mem_cons.mpr ⟨⟨fun _ => t_1064, fun h => absurd h (by show ¬ 9 = 13; decide)⟩, List.forall_mem_cons.mpr ⟨⟨fun _ => t_1065, fun h => absurd h (by show ¬ 9 = 13; decide)⟩, List.forall_mem_cons.mpr ⟨⟨fun _ => t_1066, fun h => absurd h (by show ¬ 9 = 13; decide)⟩, List.forall_mem_cons.mpr ⟨⟨fun _ => t_1074, fun h => absurd h (by show ¬ 9 = 13; decide)⟩, List.forall_mem_cons.mpr ⟨⟨fun _ => t_1078, fun h => absurd h (by show ¬ 9 = 13; decide)⟩, List.forall_mem_cons.mpr ⟨⟨fun _ => t_1079, fun h => absurd h (by show ¬ 9 = 13; decide)⟩, List.forall_mem_cons.mpr ⟨⟨fun _ => t_1080, fun h => absurd h (by show ¬ 9 = 13; decide)⟩, List.forall_mem_cons.mpr ⟨⟨fun _ => t_1081, fun h => absurd h (by show ¬ 9 = 13; decide)⟩, List.forall_mem_cons.mpr ⟨⟨fun _ => t_1082, fun h => absurd h (by show ¬ 9 = 13; decide)⟩, List.forall_mem_cons.mpr ⟨⟨fun _ => t_1083, fun h => absurd h (by show ¬ 9 = 13; decide)⟩, List.forall_mem_cons.mpr ⟨⟨fun _ => t_1084, fun h => absurd h (by show ¬ 9 = 13; decide)⟩, List.forall_mem_cons.mpr ⟨⟨fun _ => t_1085, fun h => absurd h (by show ¬ 9 = 13; decide)⟩, List.forall_mem_cons.mpr ⟨⟨fun _ => t_1086, fun h => absurd h (by show ¬ 9 = 13; decide)⟩, List.forall_mem_cons.mpr ⟨⟨fun _ => t_1087, fun h => absurd h (by show ¬ 9 = 13; decide)⟩, List.forall_mem_cons.mpr ⟨⟨fun _ => t_1088, fun h => absurd h (by show ¬ 9 = 13; decide)⟩, List.forall_mem_cons.mpr ⟨⟨fun _ => t_1089, fun h => absurd h (by show ¬ 9 = 13; decide)⟩, List.forall_mem_cons.mpr ⟨⟨fun _ => t_1090, fun h => absurd h (by show ¬ 9 = 13; decide)⟩, List.forall_mem_cons.mpr ⟨⟨fun _ => t_1091, fun h => absurd h (by show ¬ 9 = 13; decide)⟩, List.forall_mem_cons.mpr ⟨⟨fun _ => t_1092, fun h => absurd h (by show ¬ 9 = 13; decide)⟩, List.forall_mem_cons.mpr ⟨⟨fun _ => t_1093, fun h => absurd h (by show ¬ 9 = 13; decide)⟩, List.forall_mem_cons.mpr ⟨⟨fun _ => t_1094, fun h => absurd h (by show ¬ 9 = 13; decide)⟩, List.forall_mem_cons.mpr ⟨⟨fun _ => t_1095, fun h => absurd h (by show ¬ 9 = 13; decide)⟩, List.forall_mem_cons.mpr ⟨⟨fun _ => t_1096, fun h => absurd h (by show ¬ 9 = 13; decide)⟩, List.forall_mem_cons.mpr ⟨⟨fun _ => t_1097, fun h => absurd h (by show ¬ 9 = 13; decide)⟩, List.forall_mem_cons.mpr ⟨⟨fun _ => t_1098, fun h => absurd h (by show ¬ 9 = 13; decide)⟩, List.forall_mem_cons.mpr ⟨⟨fun _ => t_1099, fun h => absurd h (by show ¬ 9 = 13; decide)⟩, List.forall_mem_cons.mpr ⟨⟨fun _ => t_1100, fun h => absurd h (by show ¬ 9 = 13; decide)⟩, List.forall_mem_cons.mpr ⟨⟨fun _ => t_1102, fun h => absurd h (by show ¬ 9 = 13; decide)⟩, List.forall_mem_cons.mpr ⟨⟨fun _ => t_1103, fun h => absurd h (by show ¬ 9 = 13; decide)⟩, List.forall_mem_cons.mpr ⟨⟨fun _ => t_1104, fun h => absurd h (by show ¬ 9 = 13; decide)⟩, List.forall_mem_cons.mpr ⟨⟨fun _ => t_1105, fun h => absurd h (by show ¬ 9 = 13; decide)⟩, List.forall_mem_cons.mpr ⟨⟨fun _ => t_1106, fun h => absurd h (by show ¬ 9 = 13; decide)⟩, List.forall_mem_cons.mpr ⟨⟨fun _ => t_1108, fun h => absurd h (by show ¬ 9 = 13; decide)⟩, List.forall_mem_cons.mpr ⟨⟨fun _ => t_1109, fun h => absurd h (by show ¬ 9 = 13; decide)⟩, List.forall_mem_cons.mpr ⟨⟨fun _ => t_1110, fun h => absurd h (by show ¬ 9 = 13; decide)⟩, List.forall_mem_cons.mpr ⟨⟨fun _ => t_1112, fun h => absurd h (by show ¬ 9 = 13; decide)⟩, List.forall_mem_cons.mpr ⟨⟨fun _ => t_1113, fun h => absurd h (by show ¬ 9 = 13; decide)⟩, List.forall_mem_cons.mpr ⟨⟨fun _ => t_1115, fun h => absurd h (by show ¬ 9 = 13; decide)⟩, List.forall_mem_cons.mpr ⟨⟨fun _ => t_1116, fun h => absurd h (by show ¬ 9 = 13; decide)⟩, List.forall_mem_cons.mpr ⟨⟨fun _ => t_1117, fun h => absurd h (by show ¬ 9 = 13; decide)⟩, List.forall_mem_cons.mpr ⟨⟨fun _ => t_1118, fun h => absurd h (by show ¬ 9 = 13; decide)⟩, List.forall_mem_cons.mpr ⟨⟨fun _ => t_1120, fun h => absurd h (by show ¬ 9 = 13; decide)⟩, List.forall_mem_cons.mpr ⟨⟨fun _ => t_1121, fun h => absurd h (by show ¬ 9 = 13; decide)⟩, List.forall_mem_cons.mpr ⟨⟨fun _ => t_1122, fun h => absurd h (by show ¬ 9 = 13; decide)⟩, List.forall_mem_cons.mpr ⟨⟨fun _ => t_1127, fun h => absurd h (by show ¬ 9 = 13; decide)⟩, List.forall_mem_cons.mpr ⟨⟨fun _ => t_1128, fun h => absurd h (by show ¬ 9 = 13; decide)⟩, List.forall_mem_cons.mpr ⟨⟨fun _ => t_1129, fun h => absurd h (by show ¬ 9 = 13; decide)⟩, List.forall_mem_cons.mpr ⟨⟨fun _ => t_1130, fun h => absurd h (by show ¬ 9 = 13; decide)⟩, List.forall_mem_cons.mpr ⟨⟨fun _ => t_1131, fun h => absurd h (by show ¬ 9 = 13; decide)⟩, List.forall_mem_cons.mpr ⟨⟨fun _ => t_1059, fun h => absurd h (by show ¬ 9 = 13; decide)⟩, List.forall_mem_cons.mpr ⟨⟨fun _ => t_1061, fun h => absurd h (by show ¬ 9 = 13; decide)⟩, List.forall_mem_cons.mpr ⟨⟨fun _ => t_1067, fun h => absurd h (by show ¬ 9 = 13; decide)⟩, List.forall_mem_cons.mpr ⟨⟨fun _ => t_1070, fun h => absurd h (by show ¬ 9 = 13; decide)⟩, List.forall_mem_cons.mpr ⟨⟨fun _ => t_1068, fun h => absurd h (by show ¬ 9 = 13; decide)⟩, List.forall_mem_cons.mpr ⟨⟨fun _ => t_1071, fun h => absurd h (by show ¬ 9 = 13; decide)⟩, List.forall_mem_cons.mpr ⟨⟨fun _ => t_1072, fun h => absurd h (by show ¬ 9 = 13; decide)⟩, List.forall_mem_cons.mpr ⟨⟨fun _ => t_1073, fun h => absurd h (by show ¬ 9 = 13; decide)⟩, List.forall_mem_cons.mpr ⟨⟨fun _ => t_1069, fun h => absurd h (by show ¬ 9 = 13; decide)⟩, List.forall_mem_cons.mpr ⟨⟨fun _ => t_1075, fun h => absurd h (by show ¬ 9 = 13; decide)⟩, List.forall_mem_cons.mpr ⟨⟨fun _ => t_1076, fun h => absurd h (by show ¬ 9 = 13; decide)⟩, List.forall_mem_cons.mpr ⟨⟨fun _ => t_1077, fun h => absurd h (by show ¬ 9 = 13; decide)⟩, List.forall_mem_cons.mpr ⟨⟨fun _ => t_1101, fun h => absurd h (by show ¬ 9 = 13; decide)⟩, List.forall_mem_cons.mpr ⟨⟨fun _ => t_1107, fun h => absurd h (by show ¬ 9 = 13; decide)⟩, List.forall_mem_cons.mpr ⟨⟨fun _ => t_1119, fun h => absurd h (by show ¬ 9 = 13; decide)⟩, List.forall_mem_cons.mpr ⟨⟨fun _ => t_1126, fun h => absurd h (by show ¬ 9 = 13; decide)⟩, List.forall_mem_cons.mpr ⟨⟨fun _ => t_1111, fun h => absurd h (by show ¬ 9 = 13; decide)⟩, List.forall_mem_cons.mpr ⟨⟨fun _ => t_1114, fun h => absurd h (by show ¬ 9 = 13; decide)⟩, List.forall_mem_cons.mpr ⟨⟨fun _ => t_1124, fun h => absurd h (by show ¬ 9 = 13; decide)⟩, List.forall_mem_cons.mpr ⟨⟨fun _ => t_1123, fun h => absurd h (by show ¬ 9 = 13; decide)⟩, List.forall_mem_cons.mpr ⟨⟨fun _ => t_1125, fun h => absurd h (by show ¬ 9 = 13; decide)⟩, fun _ h => absurd h List.not_mem_nil⟩⟩⟩⟩⟩⟩⟩⟩⟩⟩⟩⟩⟩⟩⟩⟩⟩⟩⟩⟩⟩⟩⟩⟩⟩⟩⟩⟩⟩⟩⟩⟩⟩⟩⟩⟩⟩⟩⟩⟩⟩⟩⟩⟩⟩⟩⟩⟩⟩⟩⟩⟩⟩⟩⟩⟩⟩⟩⟩⟩⟩⟩⟩⟩⟩⟩⟩⟩⟩⟩⟩⟩⟩⟩
theorem fd_10 : ∀ q ∈ fdt10, fdP 10 q := fun _ h => absurd h List.not_mem_nil
theorem fd_11 : ∀ q ∈ fdt11, fdP 11 q := fun _ h => absurd h List.not_mem_nil
theorem fd_12 : ∀ q ∈ fdt12, fdP 12 q := fun _ h => absurd h List.not_mem_nil
theorem fd_13 : ∀ q ∈ fdt13, fdP 13 q := List.forall_mem_cons.mpr ⟨⟨fun h => absurd h (by show ¬ 13 < 10; decide), fun _ => ⟨rfl, fun _ => t_1717, fun h => absurd rfl h⟩⟩, List.forall_mem_cons.mpr ⟨⟨fun h => absurd h (by show ¬ 13 < 10; decide), fun _ => ⟨rfl, fun h => absurd h (by show ¬ 1 = 0; decide), fun _ => t_1718⟩⟩, fun _ h => absurd h List.not_mem_nil⟩⟩
theorem fd_14 : ∀ q ∈ fdt14, fdP 14 q := fun _ h => absurd h List.not_mem_nil
theorem fd_15 : ∀ q ∈ fdt15, fdP 15 q := fun _ h => absurd h List.not_mem_nil
theorem fd_16 : ∀ q ∈ fdt16, fdP 16 q := fun _ h => absurd h List.not_mem_nil
def yP (y : Nat) : Prop := ((nmM y).cls ≠ "java/lang/invoke/MethodHandle" ∧ (nmM y).cls ≠ "java/lang/invoke/VarHandle") ∧ (nmM y).cls = cn (ocM y) ∧ plainName (nmM y).cls = true ∧ Cond.code (nmM y) (cdM y) (mlM y) (rtM y) ∈ tbX ∧ Cond.initialized (nmM y).cls ∈ tbX ∧ ocM y < 17
def prM (y : Nat) : Option Nat := (parseMethodDescriptor (nmM y).desc).map (fun d => d.parameters.length)
theorem yP_0 : yP 0 := ⟨by decide +kernel, rfl, by decide +kernel, t_211, t_10, by decide⟩
theorem yP_1 : yP 1 := ⟨by decide +kernel, rfl, by decide +kernel, t_908, t_10, by decide⟩
theorem yP_2 : yP 2 := ⟨by decide +kernel, rfl, by decide +kernel, t_916, t_10, by decide⟩
theorem yP_3 : yP 3 := ⟨by decide +kernel, rfl, by decide +kernel, t_932, t_10, by decide⟩
theorem yP_4 : yP 4 := ⟨by decide +kernel, rfl, by decide +kernel, t_920, t_10, by decide⟩
theorem yP_5 : yP 5 := ⟨by decide +kernel, rfl, by decide +kernel, t_225, t_11, by decide⟩
theorem yP_6 : yP 6 := ⟨by decide +kernel, rfl, by decide +kernel, t_940, t_11, by decide⟩
theorem yP_7 : yP 7 := ⟨by decide +kernel, rfl, by decide +kernel, t_955, t_11, by decide⟩
theorem yP_8 : yP 8 := ⟨by decide +kernel, rfl, by decide +kernel, t_946, t_11, by decide⟩
theorem yP_9 : yP 9 := ⟨by decide +kernel, rfl, by decide +kernel, t_950, t_11, by decide⟩
theorem yP_10 : yP 10 := ⟨by decide +kernel, rfl, by decide +kernel, t_166, t_8, by decide⟩
theorem yP_11 : yP 11 := ⟨by decide +kernel, rfl, by decide +kernel, t_400, t_8, by decide⟩
theorem yP_12 : yP 12 := ⟨by decide +kernel, rfl, by decide +kernel, t_749, t_8, by decide⟩
theorem yP_13 : yP 13 := ⟨by decide +kernel, rfl, by decide +kernel, t_836, t_8, by decide⟩
theorem yP_14 : yP 14 := ⟨by decide +kernel, rfl, by decide +kernel, t_844, t_8, by decide⟩
theorem yP_15 : yP 15 := ⟨by decide +kernel, rfl, by decide +kernel, t_852, t_8, by decide⟩
theorem yP_16 : yP 16 := ⟨by decide +kernel, rfl, by decide +kernel, t_734, t_8, by decide⟩
theorem yP_17 : yP 17 := ⟨by decide +kernel, rfl, by decide +kernel, t_253, t_13, by decide⟩
theorem yP_18 : yP 18 := ⟨by decide +kernel, rfl, by decide +kernel, t_388, t_13, by decide⟩
theorem yP_19 : yP 19 := ⟨by decide +kernel, rfl, by decide +kernel, t_392, t_13, by decide⟩
theorem yP_20 : yP 20 := ⟨by decide +kernel, rfl, by decide +kernel, t_396, t_13, by decide⟩
theorem yP_21 : yP 21 := ⟨by decide +kernel, rfl, by decide +kernel, t_667, t_13, by decide⟩
theorem yP_22 : yP 22 := ⟨by decide +kernel, rfl, by decide +kernel, t_796, t_13, by decide⟩
theorem yP_23 : yP 23 := ⟨by decide +kernel, rfl, by decide +kernel, t_824, t_13, by decide⟩
theorem yP_24 : yP 24 := ⟨by decide +kernel, rfl, by decide +kernel, t_963, t_13, by decide⟩
theorem yP_25 : yP 25 := ⟨by decide +kernel, rfl, by decide +kernel, t_996, t_13, by decide⟩
theorem yP_26 : yP 26 := ⟨by decide +kernel, rfl, by decide +kernel, t_801, t_13, by decide⟩
theorem yP_27 : yP 27 := ⟨by decide +kernel, rfl, by decide +kernel, t_804, t_13, by decide⟩
theorem yP_28 : yP 28 := ⟨by decide +kernel, rfl, by decide +kernel, t_32, t_2, by decide⟩
theorem yP_29 : yP 29 := ⟨by decide +kernel, rfl, by decide +kernel, t_564, t_2, by decide⟩
theorem yP_30 : yP 30 := ⟨by decide +kernel, rfl, by decide +kernel, t_573, t_2, by decide⟩
theorem yP_31 : yP 31 := ⟨by decide +kernel, rfl, by decide +kernel, t_577, t_2, by decide⟩
theorem yP_32 : yP 32 := ⟨by decide +kernel, rfl, by decide +kernel, t_613, t_2, by decide⟩
theorem yP_33 : yP 33 := ⟨by decide +kernel, rfl, by decide +kernel, t_621, t_2, by decide⟩
theorem yP_34 : yP 34 := ⟨by decide +kernel, rfl, by decide +kernel, t_630, t_2, by decide⟩
theorem yP_35 : yP 35 := ⟨by decide +kernel, rfl, by decide +kernel, t_634, t_2, by decide⟩
theorem yP_36 : yP 36 := ⟨by decide +kernel, rfl, by decide +kernel, t_638, t_2, by decide⟩
theorem yP_37 : yP 37 := ⟨by decide +kernel, rfl, by decide +kernel, t_642, t_2, by decide⟩
theorem yP_38 : yP 38 := ⟨by decide +kernel, rfl, by decide +kernel, t_646, t_2, by decide⟩
theorem yP_39 : yP 39 := ⟨by decide +kernel, rfl, by decide +kernel, t_650, t_2, by decide⟩
theorem yP_40 : yP 40 := ⟨by decide +kernel, rfl, by decide +kernel, t_658, t_2, by decide⟩
theorem yP_41 : yP 41 := ⟨by decide +kernel, rfl, by decide +kernel, t_654, t_2, by decide⟩
theorem yP_42 : yP 42 := ⟨by decide +kernel, rfl, by decide +kernel, t_663, t_2, by decide⟩
theorem yP_43 : yP 43 := ⟨by decide +kernel, rfl, by decide +kernel, t_569, t_2, by decide⟩
theorem yP_44 : yP 44 := ⟨by decide +kernel, rfl, by decide +kernel, t_617, t_2, by decide⟩
theorem yP_45 : yP 45 := ⟨by decide +kernel, rfl, by decide +kernel, t_589, t_2, by decide⟩
theorem yP_46 : yP 46 := ⟨by decide +kernel, rfl, by decide +kernel, t_581, t_2, by decide⟩
theorem yP_47 : yP 47 := ⟨by decide +kernel, rfl, by decide +kernel, t_605, t_2, by decide⟩
theorem yP_48 : yP 48 := ⟨by decide +kernel, rfl, by decide +kernel, t_593, t_2, by decide⟩
theorem yP_49 : yP 49 := ⟨by decide +kernel, rfl, by decide +kernel, t_625, t_2, by decide⟩
theorem yP_50 : yP 50 := ⟨by decide +kernel, rfl, by decide +kernel, t_597, t_2, by decide⟩
theorem yP_51 : yP 51 := ⟨by decide +kernel, rfl, by decide +kernel, t_609, t_2, by decide⟩
theorem yP_52 : yP 52 := ⟨by decide +kernel, rfl, by decide +kernel, t_585, t_2, by decide⟩
theorem yP_53 : yP 53 := ⟨by decide +kernel, rfl, by decide +kernel, t_601, t_2, by decide⟩
theorem yP_54 : yP 54 := ⟨by decide +kernel, rfl, by decide +kernel, t_247, t_12, by decide⟩
theorem yP_55 : yP 55 := ⟨by decide +kernel, rfl, by decide +kernel, t_384, t_12, by decide⟩
theorem yP_56 : yP 56 := ⟨by decide +kernel, rfl, by decide +kernel, t_671, t_12, by decide⟩
theorem yP_57 : yP 57 := ⟨by decide +kernel, rfl, by decide +kernel, t_675, t_12, by decide⟩
theorem yP_58 : yP 58 := ⟨by decide +kernel, rfl, by decide +kernel, t_38, t_3, by decide⟩
theorem yP_59 : yP 59 := ⟨by decide +kernel, rfl, by decide +kernel, t_457, t_3, by decide⟩
theorem yP_60 : yP 60 := ⟨by decide +kernel, rfl, by decide +kernel, t_469, t_3, by decide⟩
theorem yP_61 : yP 61 := ⟨by decide +kernel, rfl, by decide +kernel, t_473, t_3, by decide⟩
theorem yP_62 : yP 62 := ⟨by decide +kernel, rfl, by decide +kernel, t_480, t_3, by decide⟩
theorem yP_63 : yP 63 := ⟨by decide +kernel, rfl, by decide +kernel, t_487, t_3, by decide⟩
theorem yP_64 : yP 64 := ⟨by decide +kernel, rfl, by decide +kernel, t_491, t_3, by decide⟩
theorem yP_65 : yP 65 := ⟨by decide +kernel, rfl, by decide +kernel, t_498, t_3, by decide⟩
theorem yP_66 : yP 66 := ⟨by decide +kernel, rfl, by decide +kernel, t_91, t_3, by decide⟩
theorem yP_67 : yP 67 := ⟨by decide +kernel, rfl, by decide +kernel, t_476, t_3, by decide⟩
theorem yP_68 : yP 68 := ⟨by decide +kernel, rfl, by decide +kernel, t_483, t_3, by decide⟩
theorem yP_69 : yP 69 := ⟨by decide +kernel, rfl, by decide +kernel, t_494, t_3, by decide⟩
theorem yP_70 : yP 70 := ⟨by decide +kernel, rfl, by decide +kernel, t_195, t_9, by decide⟩
theorem yP_71 : yP 71 := ⟨by decide +kernel, rfl, by decide +kernel, t_773, t_9, by decide⟩
theorem yP_72 : yP 72 := ⟨by decide +kernel, rfl, by decide +kernel, t_1022, t_9, by decide⟩
theorem yP_73 : yP 73 := ⟨by decide +kernel, rfl, by decide +kernel, t_777, t_9, by decide⟩
theorem yP_74 : yP 74 := ⟨by decide +kernel, rfl, by decide +kernel, t_781, t_9, by decide⟩
theorem yP_75 : yP 75 := ⟨by decide +kernel, rfl, by decide +kernel, t_24, t_1, by decide⟩
theorem yP_76 : yP 76 := ⟨by decide +kernel, rfl, by decide +kernel, t_453, t_1, by decide⟩
theorem yP_77 : yP 77 := ⟨by decide +kernel, rfl, by decide +kernel, t_461, t_1, by decide⟩
theorem yP_78 : yP 78 := ⟨by decide +kernel, rfl, by decide +kernel, t_465, t_1, by decide⟩
theorem yP_79 : yP 79 := ⟨by decide +kernel, rfl, by decide +kernel, t_679, t_1, by decide⟩
theorem yP_80 : yP 80 := ⟨by decide +kernel, rfl, by decide +kernel, t_683, t_1, by decide⟩
theorem yP_81 : yP 81 := ⟨by decide +kernel, rfl, by decide +kernel, t_691, t_1, by decide⟩
theorem yP_82 : yP 82 := ⟨by decide +kernel, rfl, by decide +kernel, t_699, t_1, by decide⟩
theorem yP_83 : yP 83 := ⟨by decide +kernel, rfl, by decide +kernel, t_722, t_1, by decide⟩
theorem yP_84 : yP 84 := ⟨by decide +kernel, rfl, by decide +kernel, t_730, t_1, by decide⟩
theorem yP_85 : yP 85 := ⟨by decide +kernel, rfl, by decide +kernel, t_738, t_1, by decide⟩
theorem yP_86 : yP 86 := ⟨by decide +kernel, rfl, by decide +kernel, t_757, t_1, by decide⟩
theorem yP_87 : yP 87 := ⟨by decide +kernel, rfl, by decide +kernel, t_812, t_1, by decide⟩
theorem yP_88 : yP 88 := ⟨by decide +kernel, rfl, by decide +kernel, t_816, t_1, by decide⟩
theorem yP_89 : yP 89 := ⟨by decide +kernel, rfl, by decide +kernel, t_832, t_1, by decide⟩
theorem yP_90 : yP 90 := ⟨by decide +kernel, rfl, by decide +kernel, t_840, t_1, by decide⟩
theorem yP_91 : yP 91 := ⟨by decide +kernel, rfl, by decide +kernel, t_848, t_1, by decide⟩
theorem yP_92 : yP 92 := ⟨by decide +kernel, rfl, by decide +kernel, t_856, t_1, by decide⟩
theorem yP_93 : yP 93 := ⟨by decide +kernel, rfl, by decide +kernel, t_860, t_1, by decide⟩
theorem yP_94 : yP 94 := ⟨by decide +kernel, rfl, by decide +kernel, t_864, t_1, by decide⟩
theorem yP_95 : yP 95 := ⟨by decide +kernel, rfl, by decide +kernel, t_884, t_1, by decide⟩
theorem yP_96 : yP 96 := ⟨by decide +kernel, rfl, by decide +kernel, t_888, t_1, by decide⟩
theorem yP_97 : yP 97 := ⟨by decide +kernel, rfl, by decide +kernel, t_892, t_1, by decide⟩
theorem yP_98 : yP 98 := ⟨by decide +kernel, rfl, by decide +kernel, t_896, t_1, by decide⟩
theorem yP_99 : yP 99 := ⟨by decide +kernel, rfl, by decide +kernel, t_928, t_1, by decide⟩
theorem yP_100 : yP 100 := ⟨by decide +kernel, rfl, by decide +kernel, t_936, t_1, by decide⟩
theorem yP_101 : yP 101 := ⟨by decide +kernel, rfl, by decide +kernel, t_959, t_1, by decide⟩
theorem yP_102 : yP 102 := ⟨by decide +kernel, rfl, by decide +kernel, t_967, t_1, by decide⟩
theorem yP_103 : yP 103 := ⟨by decide +kernel, rfl, by decide +kernel, t_976, t_1, by decide⟩
theorem yP_104 : yP 104 := ⟨by decide +kernel, rfl, by decide +kernel, t_984, t_1, by decide⟩
theorem yP_105 : yP 105 := ⟨by decide +kernel, rfl, by decide +kernel, t_992, t_1, by decide⟩
theorem yP_106 : yP 106 := ⟨by decide +kernel, rfl, by decide +kernel, t_1002, t_1, by decide⟩
theorem yP_107 : yP 107 := ⟨by decide +kernel, rfl, by decide +kernel, t_1006, t_1, by decide⟩
theorem yP_108 : yP 108 := ⟨by decide +kernel, rfl, by decide +kernel, t_1010, t_1, by decide⟩
theorem yP_109 : yP 109 := ⟨by decide +kernel, rfl, by decide +kernel, t_1014, t_1, by decide⟩
theorem yP_110 : yP 110 := ⟨by decide +kernel, rfl, by decide +kernel, t_1028, t_1, by decide⟩
theorem yP_111 : yP 111 := ⟨by decide +kernel, rfl, by decide +kernel, t_687, t_1, by decide⟩
theorem yP_112 : yP 112 := ⟨by decide +kernel, rfl, by decide +kernel, t_742, t_1, by decide⟩
theorem yP_113 : yP 113 := ⟨by decide +kernel, rfl, by decide +kernel, t_695, t_1, by decide⟩
theorem yP_114 : yP 114 := ⟨by decide +kernel, rfl, by decide +kernel, t_703, t_1, by decide⟩
theorem yP_115 : yP 115 := ⟨by decide +kernel, rfl, by decide +kernel, t_971, t_1, by decide⟩
theorem yP_116 : yP 116 := ⟨by decide +kernel, rfl, by decide +kernel, t_726, t_1, by decide⟩
theorem yP_117 : yP 117 := ⟨by decide +kernel, rfl, by decide +kernel, t_745, t_1, by decide⟩
theorem yP_118 : yP 118 := ⟨by decide +kernel, rfl, by decide +kernel, t_868, t_1, by decide⟩
theorem yP_119 : yP 119 := ⟨by decide +kernel, rfl, by decide +kernel, t_900, t_1, by decide⟩
theorem yP_120 : yP 120 := ⟨by decide +kernel, rfl, by decide +kernel, t_711, t_1, by decide⟩
theorem yP_121 : yP 121 := ⟨by decide +kernel, rfl, by decide +kernel, t_708, t_1, by decide⟩
theorem yP_122 : yP 122 := ⟨by decide +kernel, rfl, by decide +kernel, t_820, t_1, by decide⟩
theorem yP_123 : yP 123 := ⟨by decide +kernel, rfl, by decide +kernel, t_827, t_1, by decide⟩
theorem yP_124 : yP 124 := ⟨by decide +kernel, rfl, by decide +kernel, t_792, t_1, by decide⟩
theorem yP_125 : yP 125 := ⟨by decide +kernel, rfl, by decide +kernel, t_768, t_1, by decide⟩
theorem yP_126 : yP 126 := ⟨by decide +kernel, rfl, by decide +kernel, t_765, t_1, by decide⟩
theorem yP_127 : yP 127 := ⟨by decide +kernel, rfl, by decide +kernel, t_761, t_1, by decide⟩
theorem yP_128 : yP 128 := ⟨by decide +kernel, rfl, by decide +kernel, t_788, t_1, by decide⟩
theorem yP_129 : yP 129 := ⟨by decide +kernel, rfl, by decide +kernel, t_808, t_1, by decide⟩
theorem yP_130 : yP 130 := ⟨by decide +kernel, rfl, by decide +kernel, t_872, t_1, by decide⟩
theorem yP_131 : yP 131 := ⟨by decide +kernel, rfl, by decide +kernel, t_876, t_1, by decide⟩
theorem yP_132 : yP 132 := ⟨by decide +kernel, rfl, by decide +kernel, t_880, t_1, by decide⟩
theorem yP_133 : yP 133 := ⟨by decide +kernel, rfl, by decide +kernel, t_904, t_1, by decide⟩
theorem yP_134 : yP 134 := ⟨by decide +kernel, rfl, by decide +kernel, t_1018, t_1, by decide⟩
theorem yP_135 : yP 135 := ⟨by decide +kernel, rfl, by decide +kernel, t_980, t_1, by decide⟩
theorem yP_136 : yP 136 := ⟨by decide +kernel, rfl, by decide +kernel, t_988, t_1, by decide⟩
theorem yP_137 : yP 137 := ⟨by decide +kernel, rfl, by decide +kernel, t_924, t_1, by decide⟩
theorem yP_138 : yP 138 := ⟨by decide +kernel, rfl, by decide +kernel, t_1033, t_15, by decide⟩
theorem yP_139 : yP 139 := ⟨by decide +kernel, rfl, by decide +kernel, t_1286, t_15, by decide⟩
theorem yP_140 : yP 140 := ⟨by decide +kernel, rfl, by decide +kernel, t_1290, t_15, by decide⟩
theorem yP_141 : yP 141 := ⟨by decide +kernel, rfl, by decide +kernel, t_1294, t_15, by decide⟩
theorem yP_142 : yP 142 := ⟨by decide +kernel, rfl, by decide +kernel, t_1306, t_15, by decide⟩
theorem yP_143 : yP 143 := ⟨by decide +kernel, rfl, by decide +kernel, t_1316, t_15, by decide⟩
theorem yP_144 : yP 144 := ⟨by decide +kernel, rfl, by decide +kernel, t_1313, t_15, by decide⟩
theorem yP_145 : yP 145 := ⟨by decide +kernel, rfl, by decide +kernel, t_1044, t_15, by decide⟩
theorem yP_146 : yP 146 := ⟨by decide +kernel, rfl, by decide +kernel, t_1041, t_15, by decide⟩
theorem yP_147 : yP 147 := ⟨by decide +kernel, rfl, by decide +kernel, t_1310, t_15, by decide⟩
theorem yP_148 : yP 148 := ⟨by decide +kernel, rfl, by decide +kernel, t_1302, t_15, by decide⟩
theorem yP_149 : yP 149 := ⟨by decide +kernel, rfl, by decide +kernel, t_1320, t_15, by decide⟩
theorem yP_150 : yP 150 := ⟨by decide +kernel, rfl, by decide +kernel, t_1324, t_15, by decide⟩
theorem yP_151 : yP 151 := ⟨by decide +kernel, rfl, by decide +kernel, t_1336, t_15, by decide⟩
theorem yP_152 : yP 152 := ⟨by decide +kernel, rfl, by decide +kernel, t_1356, t_15, by decide⟩
theorem yP_153 : yP 153 := ⟨by decide +kernel, rfl, by decide +kernel, t_1340, t_15, by decide⟩
theorem yP_154 : yP 154 := ⟨by decide +kernel, rfl, by decide +kernel, t_1352, t_15, by decide⟩
theorem yP_155 : yP 155 := ⟨by decide +kernel, rfl, by decide +kernel, t_1038, t_15, by decide⟩
theorem yP_156 : yP 156 := ⟨by decide +kernel, rfl, by decide +kernel, t_1298, t_15, by decide⟩
theorem yP_157 : yP 157 := ⟨by decide +kernel, rfl, by decide +kernel, t_1416, t_15, by decide⟩
theorem yP_158 : yP 158 := ⟨by decide +kernel, rfl, by decide +kernel, t_1332, t_15, by decide⟩
theorem yP_159 : yP 159 := ⟨by decide +kernel, rfl, by decide +kernel, t_1328, t_15, by decide⟩
theorem yP_160 : yP 160 := ⟨by decide +kernel, rfl, by decide +kernel, t_1348, t_15, by decide⟩
theorem yP_161 : yP 161 := ⟨by decide +kernel, rfl, by decide +kernel, t_1364, t_15, by decide⟩
theorem yP_162 : yP 162 := ⟨by decide +kernel, rfl, by decide +kernel, t_1372, t_15, by decide⟩
theorem yP_163 : yP 163 := ⟨by decide +kernel, rfl, by decide +kernel, t_1360, t_15, by decide⟩
theorem yP_164 : yP 164 := ⟨by decide +kernel, rfl, by decide +kernel, t_1344, t_15, by decide⟩
theorem yP_165 : yP 165 := ⟨by decide +kernel, rfl, by decide +kernel, t_1368, t_15, by decide⟩
theorem yP_166 : yP 166 := ⟨by decide +kernel, rfl, by decide +kernel, t_1376, t_15, by decide⟩
theorem yP_167 : yP 167 := ⟨by decide +kernel, rfl, by decide +kernel, t_1380, t_15, by decide⟩
theorem yP_168 : yP 168 := ⟨by decide +kernel, rfl, by decide +kernel, t_1384, t_15, by decide⟩
theorem yP_169 : yP 169 := ⟨by decide +kernel, rfl, by decide +kernel, t_1388, t_15, by decide⟩
theorem yP_170 : yP 170 := ⟨by decide +kernel, rfl, by decide +kernel, t_1392, t_15, by decide⟩
theorem yP_171 : yP 171 := ⟨by decide +kernel, rfl, by decide +kernel, t_1412, t_15, by decide⟩
theorem yP_172 : yP 172 := ⟨by decide +kernel, rfl, by decide +kernel, t_1404, t_15, by decide⟩
theorem yP_173 : yP 173 := ⟨by decide +kernel, rfl, by decide +kernel, t_1408, t_15, by decide⟩
theorem yP_174 : yP 174 := ⟨by decide +kernel, rfl, by decide +kernel, t_1396, t_15, by decide⟩
theorem yP_175 : yP 175 := ⟨by decide +kernel, rfl, by decide +kernel, t_1400, t_15, by decide⟩
theorem yP_176 : yP 176 := ⟨by decide +kernel, rfl, by decide +kernel, t_1525, t_15, by decide⟩
theorem yP_177 : yP 177 := ⟨by decide +kernel, rfl, by decide +kernel, t_1427, t_15, by decide⟩
theorem yP_178 : yP 178 := ⟨by decide +kernel, rfl, by decide +kernel, t_1467, t_15, by decide⟩
theorem yP_179 : yP 179 := ⟨by decide +kernel, rfl, by decide +kernel, t_1424, t_15, by decide⟩
theorem yP_180 : yP 180 := ⟨by decide +kernel, rfl, by decide +kernel, t_1455, t_15, by decide⟩
theorem yP_181 : yP 181 := ⟨by decide +kernel, rfl, by decide +kernel, t_1478, t_15, by decide⟩
theorem yP_182 : yP 182 := ⟨by decide +kernel, rfl, by decide +kernel, t_1431, t_15, by decide⟩
theorem yP_183 : yP 183 := ⟨by decide +kernel, rfl, by decide +kernel, t_1435, t_15, by decide⟩
theorem yP_184 : yP 184 := ⟨by decide +kernel, rfl, by decide +kernel, t_1447, t_15, by decide⟩
theorem yP_185 : yP 185 := ⟨by decide +kernel, rfl, by decide +kernel, t_1049, t_15, by decide⟩
theorem yP_186 : yP 186 := ⟨by decide +kernel, rfl, by decide +kernel, t_1053, t_15, by decide⟩
theorem yP_187 : yP 187 := ⟨by decide +kernel, rfl, by decide +kernel, t_1057, t_15, by decide⟩
theorem yP_188 : yP 188 := ⟨by decide +kernel, rfl, by decide +kernel, t_1460, t_15, by decide⟩
theorem yP_189 : yP 189 := ⟨by decide +kernel, rfl, by decide +kernel, t_1504, t_15, by decide⟩
theorem yP_190 : yP 190 := ⟨by decide +kernel, rfl, by decide +kernel, t_1501, t_15, by decide⟩
theorem yP_191 : yP 191 := ⟨by decide +kernel, rfl, by decide +kernel, t_1464, t_15, by decide⟩
theorem yP_192 : yP 192 := ⟨by decide +kernel, rfl, by decide +kernel, t_1517, t_15, by decide⟩
theorem yP_193 : yP 193 := ⟨by decide +kernel, rfl, by decide +kernel, t_1521, t_15, by decide⟩
theorem yP_194 : yP 194 := ⟨by decide +kernel, rfl, by decide +kernel, t_1544, t_15, by decide⟩
theorem yP_195 : yP 195 := ⟨by decide +kernel, rfl, by decide +kernel, t_1513, t_15, by decide⟩
theorem yP_196 : yP 196 := ⟨by decide +kernel, rfl, by decide +kernel, t_1541, t_15, by decide⟩
theorem yP_197 : yP 197 := ⟨by decide +kernel, rfl, by decide +kernel, t_1497, t_15, by decide⟩
theorem yP_198 : yP 198 := ⟨by decide +kernel, rfl, by decide +kernel, t_1494, t_15, by decide⟩
theorem yP_199 : yP 199 := ⟨by decide +kernel, rfl, by decide +kernel, t_1529, t_15, by decide⟩
theorem yP_200 : yP 200 := ⟨by decide +kernel, rfl, by decide +kernel, t_1509, t_15, by decide⟩
theorem yP_201 : yP 201 := ⟨by decide +kernel, rfl, by decide +kernel, t_1490, t_15, by decide⟩
theorem yP_202 : yP 202 := ⟨by decide +kernel, rfl, by decide +kernel, t_1420, t_15, by decide⟩
theorem yP_203 : yP 203 := ⟨by decide +kernel, rfl, by decide +kernel, t_1443, t_15, by decide⟩
theorem yP_204 : yP 204 := ⟨by decide +kernel, rfl, by decide +kernel, t_1439, t_15, by decide⟩
theorem yP_205 : yP 205 := ⟨by decide +kernel, rfl, by decide +kernel, t_1451, t_15, by decide⟩
theorem yP_206 : yP 206 := ⟨by decide +kernel, rfl, by decide +kernel, t_1471, t_15, by decide⟩
theorem yP_207 : yP 207 := ⟨by decide +kernel, rfl, by decide +kernel, t_1482, t_15, by decide⟩
theorem yP_208 : yP 208 := ⟨by decide +kernel, rfl, by decide +kernel, t_1475, t_15, by decide⟩
theorem yP_209 : yP 209 := ⟨by decide +kernel, rfl, by decide +kernel, t_1486, t_15, by decide⟩
theorem yP_210 : yP 210 := ⟨by decide +kernel, rfl, by decide +kernel, t_1533, t_15, by decide⟩
theorem yP_211 : yP 211 := ⟨by decide +kernel, rfl, by decide +kernel, t_1537, t_15, by decide⟩
theorem yP_212 : yP 212 := ⟨by decide +kernel, rfl, by decide +kernel, t_1548, t_15, by decide⟩
theorem yP_213 : yP 213 := ⟨by decide +kernel, rfl, by decide +kernel, t_1552, t_15, by decide⟩
theorem yP_214 : yP 214 := ⟨by decide +kernel, rfl, by decide +kernel, t_1556, t_15, by decide⟩
theorem yP_215 : yP 215 := ⟨by decide +kernel, rfl, by decide +kernel, t_1568, t_15, by decide⟩
theorem yP_216 : yP 216 := ⟨by decide +kernel, rfl, by decide +kernel, t_1564, t_15, by decide⟩
theorem yP_217 : yP 217 := ⟨by decide +kernel, rfl, by decide +kernel, t_1560, t_15, by decide⟩
theorem yP_218 : yP 218 := ⟨by decide +kernel, rfl, by decide +kernel, t_1572, t_15, by decide⟩
theorem yP_219 : yP 219 := ⟨by decide +kernel, rfl, by decide +kernel, t_1576, t_15, by decide⟩
theorem yP_220 : yP 220 := ⟨by decide +kernel, rfl, by decide +kernel, t_1580, t_15, by decide⟩
theorem yP_221 : yP 221 := ⟨by decide +kernel, rfl, by decide +kernel, t_1599, t_15, by decide⟩
theorem yP_222 : yP 222 := ⟨by decide +kernel, rfl, by decide +kernel, t_1595, t_15, by decide⟩
theorem yP_223 : yP 223 := ⟨by decide +kernel, rfl, by decide +kernel, t_1592, t_15, by decide⟩
theorem yP_224 : yP 224 := ⟨by decide +kernel, rfl, by decide +kernel, t_1605, t_15, by decide⟩
theorem yP_225 : yP 225 := ⟨by decide +kernel, rfl, by decide +kernel, t_1602, t_15, by decide⟩
theorem yP_226 : yP 226 := ⟨by decide +kernel, rfl, by decide +kernel, t_1588, t_15, by decide⟩
theorem yP_227 : yP 227 := ⟨by decide +kernel, rfl, by decide +kernel, t_1584, t_15, by decide⟩
theorem yP_228 : yP 228 := ⟨by decide +kernel, rfl, by decide +kernel, t_1609, t_15, by decide⟩
theorem yP_229 : yP 229 := ⟨by decide +kernel, rfl, by decide +kernel, t_1620, t_15, by decide⟩
theorem yP_230 : yP 230 := ⟨by decide +kernel, rfl, by decide +kernel, t_1624, t_15, by decide⟩
theorem yP_231 : yP 231 := ⟨by decide +kernel, rfl, by decide +kernel, t_1617, t_15, by decide⟩
theorem yP_232 : yP 232 := ⟨by decide +kernel, rfl, by decide +kernel, t_1613, t_15, by decide⟩
theorem yP_233 : yP 233 := ⟨by decide +kernel, rfl, by decide +kernel, t_1640, t_15, by decide⟩
theorem yP_234 : yP 234 := ⟨by decide +kernel, rfl, by decide +kernel, t_1636, t_15, by decide⟩
theorem yP_235 : yP 235 := ⟨by decide +kernel, rfl, by decide +kernel, t_1632, t_15, by decide⟩
theorem yP_236 : yP 236 := ⟨by decide +kernel, rfl, by decide +kernel, t_1628, t_15, by decide⟩
theorem yP_237 : yP 237 := ⟨by decide +kernel, rfl, by decide +kernel, t_1648, t_15, by decide⟩
theorem yP_238 : yP 238 := ⟨by decide +kernel, rfl, by decide +kernel, t_1652, t_15, by decide⟩
theorem yP_239 : yP 239 := ⟨by decide +kernel, rfl, by decide +kernel, t_1644, t_15, by decide⟩
theorem yP_240 : yP 240 := ⟨by decide +kernel, rfl, by decide +kernel, t_1656, t_15, by decide⟩
theorem yP_241 : yP 241 := ⟨by decide +kernel, rfl, by decide +kernel, t_1664, t_15, by decide⟩
theorem yP_242 : yP 242 := ⟨by decide +kernel, rfl, by decide +kernel, t_1660, t_15, by decide⟩
theorem yP_243 : yP 243 := ⟨by decide +kernel, rfl, by decide +kernel, t_1676, t_15, by decide⟩
theorem yP_244 : yP 244 := ⟨by decide +kernel, rfl, by decide +kernel, t_1672, t_15, by decide⟩
theorem yP_245 : yP 245 := ⟨by decide +kernel, rfl, by decide +kernel, t_1668, t_15, by decide⟩
theorem yP_246 : yP 246 := ⟨by decide +kernel, rfl, by decide +kernel, t_1680, t_15, by decide⟩
theorem yP_247 : yP 247 := ⟨by decide +kernel, rfl, by decide +kernel, t_1684, t_15, by decide⟩
theorem yP_248 : yP 248 := ⟨by decide +kernel, rfl, by decide +kernel, t_1688, t_15, by decide⟩
theorem yP_249 : yP 249 := ⟨by decide +kernel, rfl, by decide +kernel, t_1696, t_15, by decide⟩
theorem yP_250 : yP 250 := ⟨by decide +kernel, rfl, by decide +kernel, t_1692, t_15, by decide⟩
theorem yP_251 : yP 251 := ⟨by decide +kernel, rfl, by decide +kernel, t_1700, t_15, by decide⟩
theorem yP_252 : yP 252 := ⟨by decide +kernel, rfl, by decide +kernel, t_1704, t_15, by decide⟩
theorem yP_253 : yP 253 := ⟨by decide +kernel, rfl, by decide +kernel, t_1708, t_15, by decide⟩
theorem yP_254 : yP 254 := ⟨by decide +kernel, rfl, by decide +kernel, t_1712, t_15, by decide⟩
theorem yP_255 : yP 255 := ⟨by decide +kernel, rfl, by decide +kernel, t_1716, t_15, by decide⟩
theorem yP_256 : yP 256 := ⟨by decide +kernel, rfl, by decide +kernel, t_714, t_18, by decide⟩
theorem yP_257 : yP 257 := ⟨by decide +kernel, rfl, by decide +kernel, t_44, t_4, by decide⟩
theorem yP_258 : yP 258 := ⟨by decide +kernel, rfl, by decide +kernel, t_54, t_4, by decide⟩
theorem yP_259 : yP 259 := ⟨by decide +kernel, rfl, by decide +kernel, t_505, t_4, by decide⟩
theorem yP_260 : yP 260 := ⟨by decide +kernel, rfl, by decide +kernel, t_509, t_4, by decide⟩
theorem yP_261 : yP 261 := ⟨by decide +kernel, rfl, by decide +kernel, t_48, t_4, by decide⟩
theorem yP_262 : yP 262 := ⟨by decide +kernel, rfl, by decide +kernel, t_58, t_4, by decide⟩
theorem yP_263 : yP 263 := ⟨by decide +kernel, rfl, by decide +kernel, t_64, t_4, by decide⟩
theorem yP_264 : yP 264 := ⟨by decide +kernel, rfl, by decide +kernel, t_61, t_5, by decide⟩
theorem yP_265 : yP 265 := ⟨by decide +kernel, rfl, by decide +kernel, t_516, t_5, by decide⟩
theorem yP_266 : yP 266 := ⟨by decide +kernel, rfl, by decide +kernel, t_513, t_5, by decide⟩
theorem yP_267 : yP 267 := ⟨by decide +kernel, rfl, by decide +kernel, t_525, t_5, by decide⟩
theorem yP_268 : yP 268 := ⟨by decide +kernel, rfl, by decide +kernel, t_911, t_14, by decide⟩
theorem yP_269 : yP 269 := ⟨by decide +kernel, rfl, by decide +kernel, t_403, t_14, by decide⟩
theorem yP_270 : yP 270 := ⟨by decide +kernel, rfl, by decide +kernel, t_69, t_6, by decide⟩
def nstL : List (String × Nat × MethodName) := [("SchoolLosing", 11, ⟨"SchoolLosing$Reader", "<init>", "()V"⟩), ("SchoolLosing", 23, ⟨"SchoolLosing$Going", "<init>", "()V"⟩), ("SchoolLosing", 30, ⟨"SchoolLosing$Wants", "<init>", "()V"⟩), ("SchoolLosing", 37, ⟨"SchoolLosing$Chances", "<init>", "()V"⟩), ("SchoolLosing", 44, ⟨"SchoolLosing$Choice", "<init>", "()V"⟩), ("SchoolLosing", 68, ⟨"SchoolLosing$Text", "<init>", "()V"⟩), ("SchoolLosing$Text", 53, ⟨"SchoolLosing$Laws", "<init>", "()V"⟩)]
def lkP (k : Nat) (q : Nat × Nat × Nat) : Prop := match q.2.1 with
  | 0 => Cond.methodLink (cn k) q.1 (nmM q.2.2) ∈ tbX ∧ Cond.instanceMethod (nmM q.2.2) ∈ tbX ∧ Cond.selects (nmM q.2.2).cls (nmM q.2.2) (nmM q.2.2) ∈ tbX ∧ prM q.2.2 = some (naM q.2.2 - 1) ∧ 0 < naM q.2.2 ∧ yP q.2.2
  | 1 => Cond.methodLink (cn k) q.1 (nmM q.2.2) ∈ tbX ∧ Cond.static (nmM q.2.2) ∈ tbX ∧ prM q.2.2 = some (naM q.2.2) ∧ yP q.2.2
  | 2 => Cond.methodLink (cn k) q.1 (nmM q.2.2) ∈ tbX ∧ Cond.instanceMethod (nmM q.2.2) ∈ tbX ∧ (nmM q.2.2).name = "<init>" ∧ prM q.2.2 = some (naM q.2.2 - 1) ∧ 0 < naM q.2.2 ∧ yP q.2.2 ∧ rtM q.2.2 = none
  | 3 => (cn k, q.1, nmM q.2.2) ∈ nstL ∧ Cond.instanceMethod (nmM q.2.2) ∈ tbX ∧ (nmM q.2.2).name = "<init>" ∧ prM q.2.2 = some (naM q.2.2 - 1) ∧ 0 < naM q.2.2 ∧ yP q.2.2 ∧ rtM q.2.2 = none
  | 4 => Cond.methodLink (cn k) q.1 objectInit ∈ tbX
  | 5 => Cond.methodLink (cn k) q.1 arraycopyName ∈ tbX
  | 6 => Cond.methodLink (cn k) q.1 Lib.Math.max.name ∈ tbX
  | 7 => Cond.methodLink (cn k) q.1 Lib.Math.min.name ∈ tbX
  | 8 => Cond.methodLink (cn k) q.1 Lib.Math.abs.name ∈ tbX
  | _ => False
theorem lk_0_3 : lkP 0 (3, 4, 0) := t_212
theorem lk_0_18 : lkP 0 (18, 1, 268) := ⟨t_909, t_910, by decide +kernel, yP_268⟩
theorem lk_0_40 : lkP 0 (40, 0, 2) := ⟨t_913, t_915, ts_52, by decide +kernel, by decide, yP_2⟩
theorem lk_0_50 : lkP 0 (50, 1, 4) := ⟨t_918, t_919, by decide +kernel, yP_4⟩
set_option maxRecDepth 20000 in
theorem lk_0 : ∀ q ∈ lnk0, lkP 0 q := List.forall_mem_cons.mpr ⟨lk_0_3, List.forall_mem_cons.mpr ⟨lk_0_18, List.forall_mem_cons.mpr ⟨lk_0_40, List.forall_mem_cons.mpr ⟨lk_0_50, fun _ h => absurd h List.not_mem_nil⟩⟩⟩⟩
theorem lk_1_1 : lkP 1 (1, 4, 0) := t_226
theorem lk_1_19 : lkP 1 (19, 7, 0) := t_941
theorem lk_1_29 : lkP 1 (29, 1, 256) := ⟨t_942, t_713, by decide +kernel, yP_256⟩
theorem lk_1_35 : lkP 1 (35, 0, 8) := ⟨t_943, t_945, ts_53, by decide +kernel, by decide, yP_8⟩
theorem lk_1_38 : lkP 1 (38, 0, 9) := ⟨t_947, t_949, ts_54, by decide +kernel, by decide, yP_9⟩
set_option maxRecDepth 20000 in
theorem lk_1 : ∀ q ∈ lnk1, lkP 1 q := List.forall_mem_cons.mpr ⟨lk_1_1, List.forall_mem_cons.mpr ⟨lk_1_19, List.forall_mem_cons.mpr ⟨lk_1_29, List.forall_mem_cons.mpr ⟨lk_1_35, List.forall_mem_cons.mpr ⟨lk_1_38, fun _ h => absurd h List.not_mem_nil⟩⟩⟩⟩⟩
theorem lk_2_3 : lkP 2 (3, 4, 0) := t_167
theorem lk_2_25 : lkP 2 (25, 1, 269) := ⟨t_401, t_402, by decide +kernel, yP_269⟩
theorem lk_2_38 : lkP 2 (38, 5, 0) := t_750
theorem lk_2_44 : lkP 2 (44, 7, 0) := t_753
set_option maxRecDepth 20000 in
theorem lk_2 : ∀ q ∈ lnk2, lkP 2 q := List.forall_mem_cons.mpr ⟨lk_2_3, List.forall_mem_cons.mpr ⟨lk_2_25, List.forall_mem_cons.mpr ⟨lk_2_38, List.forall_mem_cons.mpr ⟨lk_2_44, fun _ h => absurd h List.not_mem_nil⟩⟩⟩⟩
theorem lk_3_5 : lkP 3 (5, 4, 0) := t_254
theorem lk_3_28 : lkP 3 (28, 0, 19) := ⟨t_389, t_391, ts_0, by decide +kernel, by decide, yP_19⟩
theorem lk_3_32 : lkP 3 (32, 0, 20) := ⟨t_393, t_394, t_395, by decide +kernel, by decide, yP_20⟩
theorem lk_3_36 : lkP 3 (36, 1, 269) := ⟨t_797, t_402, by decide +kernel, yP_269⟩
theorem lk_3_42 : lkP 3 (42, 0, 26) := ⟨t_798, t_800, ts_43, by decide +kernel, by decide, yP_26⟩
theorem lk_3_46 : lkP 3 (46, 1, 27) := ⟨t_802, t_803, by decide +kernel, yP_27⟩
set_option maxRecDepth 20000 in
theorem lk_3 : ∀ q ∈ lnk3, lkP 3 q := List.forall_mem_cons.mpr ⟨lk_3_5, List.forall_mem_cons.mpr ⟨lk_3_28, List.forall_mem_cons.mpr ⟨lk_3_32, List.forall_mem_cons.mpr ⟨lk_3_36, List.forall_mem_cons.mpr ⟨lk_3_42, List.forall_mem_cons.mpr ⟨lk_3_46, fun _ h => absurd h List.not_mem_nil⟩⟩⟩⟩⟩⟩
theorem lk_4_3 : lkP 4 (3, 4, 0) := t_33
theorem lk_4_11 : lkP 4 (11, 2, 58) := ⟨t_36, t_37, rfl, by decide +kernel, by decide, yP_58, rfl⟩
theorem lk_4_40 : lkP 4 (40, 0, 55) := ⟨t_565, t_382, t_383, by decide +kernel, by decide, yP_55⟩
theorem lk_4_60 : lkP 4 (60, 0, 43) := ⟨t_566, t_568, ts_6, by decide +kernel, by decide, yP_43⟩
theorem lk_4_64 : lkP 4 (64, 0, 30) := ⟨t_570, t_572, ts_7, by decide +kernel, by decide, yP_30⟩
theorem lk_4_68 : lkP 4 (68, 0, 56) := ⟨t_668, t_669, t_670, by decide +kernel, by decide, yP_56⟩
theorem lk_4_71 : lkP 4 (71, 0, 31) := ⟨t_574, t_576, ts_8, by decide +kernel, by decide, yP_31⟩
theorem lk_4_74 : lkP 4 (74, 0, 32) := ⟨t_610, t_612, ts_17, by decide +kernel, by decide, yP_32⟩
theorem lk_4_77 : lkP 4 (77, 0, 34) := ⟨t_627, t_629, ts_21, by decide +kernel, by decide, yP_34⟩
theorem lk_4_80 : lkP 4 (80, 0, 35) := ⟨t_631, t_633, ts_22, by decide +kernel, by decide, yP_35⟩
theorem lk_4_83 : lkP 4 (83, 0, 36) := ⟨t_635, t_637, ts_23, by decide +kernel, by decide, yP_36⟩
theorem lk_4_86 : lkP 4 (86, 0, 37) := ⟨t_639, t_641, ts_24, by decide +kernel, by decide, yP_37⟩
theorem lk_4_89 : lkP 4 (89, 0, 38) := ⟨t_643, t_645, ts_25, by decide +kernel, by decide, yP_38⟩
theorem lk_4_92 : lkP 4 (92, 0, 45) := ⟨t_586, t_588, ts_11, by decide +kernel, by decide, yP_45⟩
theorem lk_4_96 : lkP 4 (96, 0, 47) := ⟨t_602, t_604, ts_15, by decide +kernel, by decide, yP_47⟩
theorem lk_4_103 : lkP 4 (103, 0, 52) := ⟨t_582, t_584, ts_10, by decide +kernel, by decide, yP_52⟩
theorem lk_4_109 : lkP 4 (109, 0, 46) := ⟨t_578, t_580, ts_9, by decide +kernel, by decide, yP_46⟩
theorem lk_4_113 : lkP 4 (113, 0, 48) := ⟨t_590, t_592, ts_12, by decide +kernel, by decide, yP_48⟩
theorem lk_4_129 : lkP 4 (129, 0, 51) := ⟨t_606, t_608, ts_16, by decide +kernel, by decide, yP_51⟩
theorem lk_4_133 : lkP 4 (133, 0, 44) := ⟨t_614, t_616, ts_18, by decide +kernel, by decide, yP_44⟩
theorem lk_4_136 : lkP 4 (136, 0, 33) := ⟨t_618, t_620, ts_19, by decide +kernel, by decide, yP_33⟩
theorem lk_4_140 : lkP 4 (140, 0, 53) := ⟨t_598, t_600, ts_14, by decide +kernel, by decide, yP_53⟩
theorem lk_4_143 : lkP 4 (143, 0, 49) := ⟨t_622, t_624, ts_20, by decide +kernel, by decide, yP_49⟩
theorem lk_4_153 : lkP 4 (153, 6, 0) := t_626
theorem lk_4_197 : lkP 4 (197, 0, 39) := ⟨t_647, t_649, ts_26, by decide +kernel, by decide, yP_39⟩
theorem lk_4_200 : lkP 4 (200, 0, 20) := ⟨t_659, t_394, t_395, by decide +kernel, by decide, yP_20⟩
theorem lk_4_203 : lkP 4 (203, 0, 21) := ⟨t_664, t_665, t_666, by decide +kernel, by decide, yP_21⟩
theorem lk_4_212 : lkP 4 (212, 0, 41) := ⟨t_651, t_653, ts_27, by decide +kernel, by decide, yP_41⟩
theorem lk_4_215 : lkP 4 (215, 0, 40) := ⟨t_655, t_657, ts_28, by decide +kernel, by decide, yP_40⟩
theorem lk_4_218 : lkP 4 (218, 0, 42) := ⟨t_660, t_662, ts_29, by decide +kernel, by decide, yP_42⟩
theorem lk_4_230 : lkP 4 (230, 0, 50) := ⟨t_594, t_596, ts_13, by decide +kernel, by decide, yP_50⟩
set_option maxRecDepth 20000 in
theorem lk_4 : ∀ q ∈ lnk4, lkP 4 q := List.forall_mem_cons.mpr ⟨lk_4_3, List.forall_mem_cons.mpr ⟨lk_4_11, List.forall_mem_cons.mpr ⟨lk_4_40, List.forall_mem_cons.mpr ⟨lk_4_60, List.forall_mem_cons.mpr ⟨lk_4_64, List.forall_mem_cons.mpr ⟨lk_4_68, List.forall_mem_cons.mpr ⟨lk_4_71, List.forall_mem_cons.mpr ⟨lk_4_74, List.forall_mem_cons.mpr ⟨lk_4_77, List.forall_mem_cons.mpr ⟨lk_4_80, List.forall_mem_cons.mpr ⟨lk_4_83, List.forall_mem_cons.mpr ⟨lk_4_86, List.forall_mem_cons.mpr ⟨lk_4_89, List.forall_mem_cons.mpr ⟨lk_4_92, List.forall_mem_cons.mpr ⟨lk_4_96, List.forall_mem_cons.mpr ⟨lk_4_103, List.forall_mem_cons.mpr ⟨lk_4_109, List.forall_mem_cons.mpr ⟨lk_4_113, List.forall_mem_cons.mpr ⟨lk_4_129, List.forall_mem_cons.mpr ⟨lk_4_133, List.forall_mem_cons.mpr ⟨lk_4_136, List.forall_mem_cons.mpr ⟨lk_4_140, List.forall_mem_cons.mpr ⟨lk_4_143, List.forall_mem_cons.mpr ⟨lk_4_153, List.forall_mem_cons.mpr ⟨lk_4_197, List.forall_mem_cons.mpr ⟨lk_4_200, List.forall_mem_cons.mpr ⟨lk_4_203, List.forall_mem_cons.mpr ⟨lk_4_212, List.forall_mem_cons.mpr ⟨lk_4_215, List.forall_mem_cons.mpr ⟨lk_4_218, List.forall_mem_cons.mpr ⟨lk_4_230, fun _ h => absurd h List.not_mem_nil⟩⟩⟩⟩⟩⟩⟩⟩⟩⟩⟩⟩⟩⟩⟩⟩⟩⟩⟩⟩⟩⟩⟩⟩⟩⟩⟩⟩⟩⟩⟩
theorem lk_5_3 : lkP 5 (3, 4, 0) := t_248
theorem lk_5_53 : lkP 5 (53, 3, 17) := ⟨List.mem_of_getElem? (i := 6) rfl, t_252, rfl, by decide +kernel, by decide, yP_17, rfl⟩
theorem lk_5_77 : lkP 5 (77, 0, 18) := ⟨t_385, t_386, t_387, by decide +kernel, by decide, yP_18⟩
theorem lk_5_80 : lkP 5 (80, 0, 57) := ⟨t_672, t_674, ts_30, by decide +kernel, by decide, yP_57⟩
set_option maxRecDepth 20000 in
theorem lk_5 : ∀ q ∈ lnk5, lkP 5 q := List.forall_mem_cons.mpr ⟨lk_5_3, List.forall_mem_cons.mpr ⟨lk_5_53, List.forall_mem_cons.mpr ⟨lk_5_77, List.forall_mem_cons.mpr ⟨lk_5_80, fun _ h => absurd h List.not_mem_nil⟩⟩⟩⟩
theorem lk_6_3 : lkP 6 (3, 4, 0) := t_39
theorem lk_6_31 : lkP 6 (31, 0, 257) := ⟨t_41, t_42, t_43, by decide +kernel, by decide, yP_257⟩
theorem lk_6_37 : lkP 6 (37, 0, 258) := ⟨t_51, t_52, t_53, by decide +kernel, by decide, yP_258⟩
theorem lk_6_41 : lkP 6 (41, 1, 66) := ⟨t_89, t_90, by decide +kernel, yP_66⟩
theorem lk_6_48 : lkP 6 (48, 0, 61) := ⟨t_470, t_472, ts_1, by decide +kernel, by decide, yP_61⟩
theorem lk_6_52 : lkP 6 (52, 0, 62) := ⟨t_477, t_479, ts_2, by decide +kernel, by decide, yP_62⟩
theorem lk_6_56 : lkP 6 (56, 1, 67) := ⟨t_474, t_475, by decide +kernel, yP_67⟩
theorem lk_6_60 : lkP 6 (60, 1, 68) := ⟨t_481, t_482, by decide +kernel, yP_68⟩
theorem lk_6_63 : lkP 6 (63, 0, 63) := ⟨t_484, t_486, ts_3, by decide +kernel, by decide, yP_63⟩
theorem lk_6_66 : lkP 6 (66, 1, 69) := ⟨t_492, t_493, by decide +kernel, yP_69⟩
theorem lk_6_69 : lkP 6 (69, 0, 65) := ⟨t_495, t_497, ts_5, by decide +kernel, by decide, yP_65⟩
theorem lk_6_74 : lkP 6 (74, 0, 259) := ⟨t_502, t_503, t_504, by decide +kernel, by decide, yP_259⟩
theorem lk_6_77 : lkP 6 (77, 0, 64) := ⟨t_488, t_490, ts_4, by decide +kernel, by decide, yP_64⟩
set_option maxRecDepth 20000 in
theorem lk_6 : ∀ q ∈ lnk6, lkP 6 q := List.forall_mem_cons.mpr ⟨lk_6_3, List.forall_mem_cons.mpr ⟨lk_6_31, List.forall_mem_cons.mpr ⟨lk_6_37, List.forall_mem_cons.mpr ⟨lk_6_41, List.forall_mem_cons.mpr ⟨lk_6_48, List.forall_mem_cons.mpr ⟨lk_6_52, List.forall_mem_cons.mpr ⟨lk_6_56, List.forall_mem_cons.mpr ⟨lk_6_60, List.forall_mem_cons.mpr ⟨lk_6_63, List.forall_mem_cons.mpr ⟨lk_6_66, List.forall_mem_cons.mpr ⟨lk_6_69, List.forall_mem_cons.mpr ⟨lk_6_74, List.forall_mem_cons.mpr ⟨lk_6_77, fun _ h => absurd h List.not_mem_nil⟩⟩⟩⟩⟩⟩⟩⟩⟩⟩⟩⟩⟩
theorem lk_7_3 : lkP 7 (3, 4, 0) := t_196
theorem lk_7_30 : lkP 7 (30, 0, 73) := ⟨t_774, t_776, ts_39, by decide +kernel, by decide, yP_73⟩
theorem lk_7_34 : lkP 7 (34, 0, 71) := ⟨t_1023, t_771, t_772, by decide +kernel, by decide, yP_71⟩
theorem lk_7_38 : lkP 7 (38, 0, 74) := ⟨t_778, t_780, ts_40, by decide +kernel, by decide, yP_74⟩
theorem lk_7_45 : lkP 7 (45, 8, 0) := t_782
set_option maxRecDepth 20000 in
theorem lk_7 : ∀ q ∈ lnk7, lkP 7 q := List.forall_mem_cons.mpr ⟨lk_7_3, List.forall_mem_cons.mpr ⟨lk_7_30, List.forall_mem_cons.mpr ⟨lk_7_34, List.forall_mem_cons.mpr ⟨lk_7_38, List.forall_mem_cons.mpr ⟨lk_7_45, fun _ h => absurd h List.not_mem_nil⟩⟩⟩⟩⟩
theorem lk_8_3 : lkP 8 (3, 4, 0) := t_25
theorem lk_8_11 : lkP 8 (11, 3, 28) := ⟨List.mem_of_getElem? (i := 0) rfl, t_31, rfl, by decide +kernel, by decide, yP_28, rfl⟩
theorem lk_8_23 : lkP 8 (23, 3, 10) := ⟨List.mem_of_getElem? (i := 1) rfl, t_165, rfl, by decide +kernel, by decide, yP_10, rfl⟩
theorem lk_8_30 : lkP 8 (30, 3, 70) := ⟨List.mem_of_getElem? (i := 2) rfl, t_194, rfl, by decide +kernel, by decide, yP_70, rfl⟩
theorem lk_8_37 : lkP 8 (37, 3, 0) := ⟨List.mem_of_getElem? (i := 3) rfl, t_210, rfl, by decide +kernel, by decide, yP_0, rfl⟩
theorem lk_8_44 : lkP 8 (44, 3, 5) := ⟨List.mem_of_getElem? (i := 4) rfl, t_224, rfl, by decide +kernel, by decide, yP_5, rfl⟩
theorem lk_8_68 : lkP 8 (68, 3, 54) := ⟨List.mem_of_getElem? (i := 5) rfl, t_246, rfl, by decide +kernel, by decide, yP_54, rfl⟩
theorem lk_8_80 : lkP 8 (80, 0, 55) := ⟨t_381, t_382, t_383, by decide +kernel, by decide, yP_55⟩
theorem lk_8_83 : lkP 8 (83, 0, 11) := ⟨t_397, t_398, t_399, by decide +kernel, by decide, yP_11⟩
theorem lk_8_89 : lkP 8 (89, 0, 59) := ⟨t_454, t_455, t_456, by decide +kernel, by decide, yP_59⟩
theorem lk_8_93 : lkP 8 (93, 0, 60) := ⟨t_466, t_467, t_468, by decide +kernel, by decide, yP_60⟩
theorem lk_8_96 : lkP 8 (96, 0, 29) := ⟨t_561, t_562, t_563, by decide +kernel, by decide, yP_29⟩
theorem lk_8_104 : lkP 8 (104, 0, 111) := ⟨t_684, t_686, ts_31, by decide +kernel, by decide, yP_111⟩
theorem lk_8_120 : lkP 8 (120, 0, 113) := ⟨t_692, t_694, ts_32, by decide +kernel, by decide, yP_113⟩
theorem lk_8_130 : lkP 8 (130, 0, 114) := ⟨t_700, t_702, ts_33, by decide +kernel, by decide, yP_114⟩
theorem lk_8_134 : lkP 8 (134, 0, 121) := ⟨t_705, t_707, ts_34, by decide +kernel, by decide, yP_121⟩
theorem lk_8_144 : lkP 8 (144, 1, 120) := ⟨t_709, t_710, by decide +kernel, yP_120⟩
theorem lk_8_148 : lkP 8 (148, 0, 116) := ⟨t_723, t_725, ts_35, by decide +kernel, by decide, yP_116⟩
theorem lk_8_170 : lkP 8 (170, 0, 16) := ⟨t_731, t_732, t_733, by decide +kernel, by decide, yP_16⟩
theorem lk_8_174 : lkP 8 (174, 0, 112) := ⟨t_739, t_741, ts_36, by decide +kernel, by decide, yP_112⟩
theorem lk_8_177 : lkP 8 (177, 1, 117) := ⟨t_743, t_744, by decide +kernel, yP_117⟩
theorem lk_8_180 : lkP 8 (180, 0, 12) := ⟨t_746, t_747, t_748, by decide +kernel, by decide, yP_12⟩
theorem lk_8_183 : lkP 8 (183, 0, 127) := ⟨t_758, t_760, ts_37, by decide +kernel, by decide, yP_127⟩
theorem lk_8_186 : lkP 8 (186, 0, 128) := ⟨t_785, t_787, ts_41, by decide +kernel, by decide, yP_128⟩
theorem lk_8_192 : lkP 8 (192, 1, 256) := ⟨t_712, t_713, by decide +kernel, yP_256⟩
theorem lk_8_197 : lkP 8 (197, 0, 122) := ⟨t_817, t_819, ts_45, by decide +kernel, by decide, yP_122⟩
theorem lk_8_201 : lkP 8 (201, 0, 13) := ⟨t_833, t_834, t_835, by decide +kernel, by decide, yP_13⟩
theorem lk_8_204 : lkP 8 (204, 0, 14) := ⟨t_841, t_842, t_843, by decide +kernel, by decide, yP_14⟩
theorem lk_8_211 : lkP 8 (211, 0, 15) := ⟨t_849, t_850, t_851, by decide +kernel, by decide, yP_15⟩
theorem lk_8_214 : lkP 8 (214, 0, 71) := ⟨t_770, t_771, t_772, by decide +kernel, by decide, yP_71⟩
theorem lk_8_222 : lkP 8 (222, 0, 118) := ⟨t_865, t_867, ts_46, by decide +kernel, by decide, yP_118⟩
theorem lk_8_226 : lkP 8 (226, 0, 130) := ⟨t_869, t_871, ts_47, by decide +kernel, by decide, yP_130⟩
theorem lk_8_230 : lkP 8 (230, 0, 124) := ⟨t_789, t_791, ts_42, by decide +kernel, by decide, yP_124⟩
theorem lk_8_233 : lkP 8 (233, 0, 119) := ⟨t_897, t_899, ts_50, by decide +kernel, by decide, yP_119⟩
theorem lk_8_236 : lkP 8 (236, 0, 133) := ⟨t_901, t_903, ts_51, by decide +kernel, by decide, yP_133⟩
theorem lk_8_244 : lkP 8 (244, 1, 137) := ⟨t_922, t_923, by decide +kernel, yP_137⟩
theorem lk_8_248 : lkP 8 (248, 0, 3) := ⟨t_929, t_930, t_931, by decide +kernel, by decide, yP_3⟩
theorem lk_8_255 : lkP 8 (255, 0, 6) := ⟨t_937, t_938, t_939, by decide +kernel, by decide, yP_6⟩
theorem lk_8_261 : lkP 8 (261, 0, 7) := ⟨t_952, t_953, t_954, by decide +kernel, by decide, yP_7⟩
theorem lk_8_271 : lkP 8 (271, 0, 24) := ⟨t_960, t_961, t_962, by decide +kernel, by decide, yP_24⟩
theorem lk_8_276 : lkP 8 (276, 1, 123) := ⟨t_825, t_826, by decide +kernel, yP_123⟩
theorem lk_8_279 : lkP 8 (279, 0, 115) := ⟨t_968, t_970, ts_55, by decide +kernel, by decide, yP_115⟩
theorem lk_8_287 : lkP 8 (287, 0, 135) := ⟨t_977, t_979, ts_56, by decide +kernel, by decide, yP_135⟩
theorem lk_8_290 : lkP 8 (290, 0, 136) := ⟨t_985, t_987, ts_57, by decide +kernel, by decide, yP_136⟩
theorem lk_8_293 : lkP 8 (293, 0, 25) := ⟨t_993, t_994, t_995, by decide +kernel, by decide, yP_25⟩
theorem lk_8_296 : lkP 8 (296, 8, 0) := t_997
theorem lk_8_303 : lkP 8 (303, 0, 134) := ⟨t_1015, t_1017, ts_58, by decide +kernel, by decide, yP_134⟩
theorem lk_8_307 : lkP 8 (307, 0, 72) := ⟨t_1019, t_1020, t_1021, by decide +kernel, by decide, yP_72⟩
theorem lk_8_313 : lkP 8 (313, 7, 0) := t_718
theorem lk_8_319 : lkP 8 (319, 0, 23) := ⟨t_821, t_822, t_823, by decide +kernel, by decide, yP_23⟩
theorem lk_8_322 : lkP 8 (322, 6, 0) := t_828
theorem lk_8_325 : lkP 8 (325, 0, 22) := ⟨t_793, t_794, t_795, by decide +kernel, by decide, yP_22⟩
theorem lk_8_332 : lkP 8 (332, 1, 125) := ⟨t_766, t_767, by decide +kernel, yP_125⟩
theorem lk_8_335 : lkP 8 (335, 0, 126) := ⟨t_762, t_764, ts_38, by decide +kernel, by decide, yP_126⟩
theorem lk_8_338 : lkP 8 (338, 0, 129) := ⟨t_805, t_807, ts_44, by decide +kernel, by decide, yP_129⟩
theorem lk_8_341 : lkP 8 (341, 0, 131) := ⟨t_873, t_875, ts_48, by decide +kernel, by decide, yP_131⟩
theorem lk_8_344 : lkP 8 (344, 0, 132) := ⟨t_877, t_879, ts_49, by decide +kernel, by decide, yP_132⟩
theorem lk_8_347 : lkP 8 (347, 0, 1) := ⟨t_905, t_906, t_907, by decide +kernel, by decide, yP_1⟩
theorem lk_8_350 : lkP 8 (350, 1, 4) := ⟨t_1024, t_919, by decide +kernel, yP_4⟩
set_option maxRecDepth 20000 in
theorem lk_8 : ∀ q ∈ lnk8, lkP 8 q := List.forall_mem_cons.mpr ⟨lk_8_3, List.forall_mem_cons.mpr ⟨lk_8_11, List.forall_mem_cons.mpr ⟨lk_8_23, List.forall_mem_cons.mpr ⟨lk_8_30, List.forall_mem_cons.mpr ⟨lk_8_37, List.forall_mem_cons.mpr ⟨lk_8_44, List.forall_mem_cons.mpr ⟨lk_8_68, List.forall_mem_cons.mpr ⟨lk_8_80, List.forall_mem_cons.mpr ⟨lk_8_83, List.forall_mem_cons.mpr ⟨lk_8_89, List.forall_mem_cons.mpr ⟨lk_8_93, List.forall_mem_cons.mpr ⟨lk_8_96, List.forall_mem_cons.mpr ⟨lk_8_104, List.forall_mem_cons.mpr ⟨lk_8_120, List.forall_mem_cons.mpr ⟨lk_8_130, List.forall_mem_cons.mpr ⟨lk_8_134, List.forall_mem_cons.mpr ⟨lk_8_144, List.forall_mem_cons.mpr ⟨lk_8_148, List.forall_mem_cons.mpr ⟨lk_8_170, List.forall_mem_cons.mpr ⟨lk_8_174, List.forall_mem_cons.mpr ⟨lk_8_177, List.forall_mem_cons.mpr ⟨lk_8_180, List.forall_mem_cons.mpr ⟨lk_8_183, List.forall_mem_cons.mpr ⟨lk_8_186, List.forall_mem_cons.mpr ⟨lk_8_192, List.forall_mem_cons.mpr ⟨lk_8_197, List.forall_mem_cons.mpr ⟨lk_8_201, List.forall_mem_cons.mpr ⟨lk_8_204, List.forall_mem_cons.mpr ⟨lk_8_211, List.forall_mem_cons.mpr ⟨lk_8_214, List.forall_mem_cons.mpr ⟨lk_8_222, List.forall_mem_cons.mpr ⟨lk_8_226, List.forall_mem_cons.mpr ⟨lk_8_230, List.forall_mem_cons.mpr ⟨lk_8_233, List.forall_mem_cons.mpr ⟨lk_8_236, List.forall_mem_cons.mpr ⟨lk_8_244, List.forall_mem_cons.mpr ⟨lk_8_248, List.forall_mem_cons.mpr ⟨lk_8_255, List.forall_mem_cons.mpr ⟨lk_8_261, List.forall_mem_cons.mpr ⟨lk_8_271, List.forall_mem_cons.mpr ⟨lk_8_276, List.forall_mem_cons.mpr ⟨lk_8_279, List.forall_mem_cons.mpr ⟨lk_8_287, List.forall_mem_cons.mpr ⟨lk_8_290, List.forall_mem_cons.mpr ⟨lk_8_293, List.forall_mem_cons.mpr ⟨lk_8_296, List.forall_mem_cons.mpr ⟨lk_8_303, List.forall_mem_cons.mpr ⟨lk_8_307, List.forall_mem_cons.mpr ⟨lk_8_313, List.forall_mem_cons.mpr ⟨lk_8_319, List.forall_mem_cons.mpr ⟨lk_8_322, List.forall_mem_cons.mpr ⟨lk_8_325, List.forall_mem_cons.mpr ⟨lk_8_332, List.forall_mem_cons.mpr ⟨lk_8_335, List.forall_mem_cons.mpr ⟨lk_8_338, List.forall_mem_cons.mpr ⟨lk_8_341, List.forall_mem_cons.mpr ⟨lk_8_344, List.forall_mem_cons.mpr ⟨lk_8_347, List.forall_mem_cons.mpr ⟨lk_8_350, fun _ h => absurd h List.not_mem_nil⟩⟩⟩⟩⟩⟩⟩⟩⟩⟩⟩⟩⟩⟩⟩⟩⟩⟩⟩⟩⟩⟩⟩⟩⟩⟩⟩⟩⟩⟩⟩⟩⟩⟩⟩⟩⟩⟩⟩⟩⟩⟩⟩⟩⟩⟩⟩⟩⟩⟩⟩⟩⟩⟩⟩⟩⟩⟩⟩
theorem lk_9_7 : lkP 9 (7, 4, 0) := t_1034
theorem lk_9_176 : lkP 9 (176, 0, 155) := ⟨t_1035, t_1037, ts_59, by decide +kernel, by decide, yP_155⟩
theorem lk_9_180 : lkP 9 (180, 1, 146) := ⟨t_1039, t_1040, by decide +kernel, yP_146⟩
theorem lk_9_184 : lkP 9 (184, 0, 185) := ⟨t_1046, t_1048, ts_60, by decide +kernel, by decide, yP_185⟩
theorem lk_9_187 : lkP 9 (187, 0, 187) := ⟨t_1054, t_1056, ts_62, by decide +kernel, by decide, yP_187⟩
theorem lk_9_193 : lkP 9 (193, 0, 140) := ⟨t_1287, t_1289, ts_63, by decide +kernel, by decide, yP_140⟩
theorem lk_9_201 : lkP 9 (201, 1, 145) := ⟨t_1042, t_1043, by decide +kernel, yP_145⟩
theorem lk_9_208 : lkP 9 (208, 0, 142) := ⟨t_1303, t_1305, ts_65, by decide +kernel, by decide, yP_142⟩
theorem lk_9_212 : lkP 9 (212, 0, 147) := ⟨t_1307, t_1309, ts_66, by decide +kernel, by decide, yP_147⟩
theorem lk_9_216 : lkP 9 (216, 1, 144) := ⟨t_1311, t_1312, by decide +kernel, yP_144⟩
theorem lk_9_220 : lkP 9 (220, 1, 143) := ⟨t_1314, t_1315, by decide +kernel, yP_143⟩
theorem lk_9_223 : lkP 9 (223, 0, 149) := ⟨t_1317, t_1319, ts_67, by decide +kernel, by decide, yP_149⟩
theorem lk_9_242 : lkP 9 (242, 0, 151) := ⟨t_1333, t_1335, ts_71, by decide +kernel, by decide, yP_151⟩
theorem lk_9_245 : lkP 9 (245, 0, 150) := ⟨t_1321, t_1323, ts_68, by decide +kernel, by decide, yP_150⟩
theorem lk_9_248 : lkP 9 (248, 0, 153) := ⟨t_1337, t_1339, ts_72, by decide +kernel, by decide, yP_153⟩
theorem lk_9_251 : lkP 9 (251, 0, 148) := ⟨t_1299, t_1301, ts_64, by decide +kernel, by decide, yP_148⟩
theorem lk_9_272 : lkP 9 (272, 0, 159) := ⟨t_1325, t_1327, ts_69, by decide +kernel, by decide, yP_159⟩
theorem lk_9_281 : lkP 9 (281, 0, 158) := ⟨t_1329, t_1331, ts_70, by decide +kernel, by decide, yP_158⟩
theorem lk_9_285 : lkP 9 (285, 0, 164) := ⟨t_1341, t_1343, ts_73, by decide +kernel, by decide, yP_164⟩
theorem lk_9_288 : lkP 9 (288, 0, 165) := ⟨t_1365, t_1367, ts_79, by decide +kernel, by decide, yP_165⟩
theorem lk_9_291 : lkP 9 (291, 0, 166) := ⟨t_1373, t_1375, ts_81, by decide +kernel, by decide, yP_166⟩
theorem lk_9_294 : lkP 9 (294, 0, 167) := ⟨t_1377, t_1379, ts_82, by decide +kernel, by decide, yP_167⟩
theorem lk_9_297 : lkP 9 (297, 0, 168) := ⟨t_1381, t_1383, ts_83, by decide +kernel, by decide, yP_168⟩
theorem lk_9_300 : lkP 9 (300, 0, 169) := ⟨t_1385, t_1387, ts_84, by decide +kernel, by decide, yP_169⟩
theorem lk_9_303 : lkP 9 (303, 0, 163) := ⟨t_1357, t_1359, ts_77, by decide +kernel, by decide, yP_163⟩
theorem lk_9_307 : lkP 9 (307, 0, 154) := ⟨t_1349, t_1351, ts_75, by decide +kernel, by decide, yP_154⟩
theorem lk_9_310 : lkP 9 (310, 0, 170) := ⟨t_1389, t_1391, ts_85, by decide +kernel, by decide, yP_170⟩
theorem lk_9_313 : lkP 9 (313, 0, 152) := ⟨t_1353, t_1355, ts_76, by decide +kernel, by decide, yP_152⟩
theorem lk_9_316 : lkP 9 (316, 0, 160) := ⟨t_1345, t_1347, ts_74, by decide +kernel, by decide, yP_160⟩
theorem lk_9_320 : lkP 9 (320, 0, 161) := ⟨t_1361, t_1363, ts_78, by decide +kernel, by decide, yP_161⟩
theorem lk_9_324 : lkP 9 (324, 0, 162) := ⟨t_1369, t_1371, ts_80, by decide +kernel, by decide, yP_162⟩
theorem lk_9_327 : lkP 9 (327, 0, 174) := ⟨t_1393, t_1395, ts_86, by decide +kernel, by decide, yP_174⟩
theorem lk_9_330 : lkP 9 (330, 0, 171) := ⟨t_1409, t_1411, ts_90, by decide +kernel, by decide, yP_171⟩
theorem lk_9_336 : lkP 9 (336, 0, 172) := ⟨t_1401, t_1403, ts_88, by decide +kernel, by decide, yP_172⟩
theorem lk_9_339 : lkP 9 (339, 0, 175) := ⟨t_1397, t_1399, ts_87, by decide +kernel, by decide, yP_175⟩
theorem lk_9_342 : lkP 9 (342, 0, 173) := ⟨t_1405, t_1407, ts_89, by decide +kernel, by decide, yP_173⟩
theorem lk_9_350 : lkP 9 (350, 1, 177) := ⟨t_1425, t_1426, by decide +kernel, yP_177⟩
theorem lk_9_354 : lkP 9 (354, 0, 186) := ⟨t_1050, t_1052, ts_61, by decide +kernel, by decide, yP_186⟩
theorem lk_9_358 : lkP 9 (358, 1, 189) := ⟨t_1502, t_1503, by decide +kernel, yP_189⟩
theorem lk_9_361 : lkP 9 (361, 1, 178) := ⟨t_1465, t_1466, by decide +kernel, yP_178⟩
theorem lk_9_364 : lkP 9 (364, 0, 176) := ⟨t_1522, t_1524, ts_107, by decide +kernel, by decide, yP_176⟩
theorem lk_9_367 : lkP 9 (367, 0, 192) := ⟨t_1514, t_1516, ts_105, by decide +kernel, by decide, yP_192⟩
theorem lk_9_370 : lkP 9 (370, 0, 191) := ⟨t_1461, t_1463, ts_98, by decide +kernel, by decide, yP_191⟩
theorem lk_9_373 : lkP 9 (373, 0, 193) := ⟨t_1518, t_1520, ts_106, by decide +kernel, by decide, yP_193⟩
theorem lk_9_376 : lkP 9 (376, 1, 194) := ⟨t_1542, t_1543, by decide +kernel, yP_194⟩
theorem lk_9_379 : lkP 9 (379, 0, 182) := ⟨t_1428, t_1430, ts_92, by decide +kernel, by decide, yP_182⟩
theorem lk_9_382 : lkP 9 (382, 0, 183) := ⟨t_1432, t_1434, ts_93, by decide +kernel, by decide, yP_183⟩
theorem lk_9_385 : lkP 9 (385, 0, 184) := ⟨t_1444, t_1446, ts_95, by decide +kernel, by decide, yP_184⟩
theorem lk_9_388 : lkP 9 (388, 1, 197) := ⟨t_1495, t_1496, by decide +kernel, yP_197⟩
theorem lk_9_391 : lkP 9 (391, 0, 195) := ⟨t_1510, t_1512, ts_104, by decide +kernel, by decide, yP_195⟩
theorem lk_9_395 : lkP 9 (395, 0, 199) := ⟨t_1526, t_1528, ts_108, by decide +kernel, by decide, yP_199⟩
theorem lk_9_398 : lkP 9 (398, 0, 198) := ⟨t_1491, t_1493, ts_101, by decide +kernel, by decide, yP_198⟩
theorem lk_9_401 : lkP 9 (401, 0, 190) := ⟨t_1498, t_1500, ts_102, by decide +kernel, by decide, yP_190⟩
theorem lk_9_404 : lkP 9 (404, 0, 200) := ⟨t_1506, t_1508, ts_103, by decide +kernel, by decide, yP_200⟩
theorem lk_9_407 : lkP 9 (407, 0, 179) := ⟨t_1421, t_1423, ts_91, by decide +kernel, by decide, yP_179⟩
theorem lk_9_410 : lkP 9 (410, 0, 203) := ⟨t_1440, t_1442, ts_94, by decide +kernel, by decide, yP_203⟩
theorem lk_9_414 : lkP 9 (414, 0, 180) := ⟨t_1452, t_1454, ts_96, by decide +kernel, by decide, yP_180⟩
theorem lk_9_418 : lkP 9 (418, 0, 188) := ⟨t_1457, t_1459, ts_97, by decide +kernel, by decide, yP_188⟩
theorem lk_9_421 : lkP 9 (421, 1, 181) := ⟨t_1476, t_1477, by decide +kernel, yP_181⟩
theorem lk_9_424 : lkP 9 (424, 0, 207) := ⟨t_1479, t_1481, ts_99, by decide +kernel, by decide, yP_207⟩
theorem lk_9_427 : lkP 9 (427, 0, 201) := ⟨t_1487, t_1489, ts_100, by decide +kernel, by decide, yP_201⟩
theorem lk_9_430 : lkP 9 (430, 0, 196) := ⟨t_1538, t_1540, ts_109, by decide +kernel, by decide, yP_196⟩
theorem lk_9_433 : lkP 9 (433, 0, 216) := ⟨t_1561, t_1563, ts_110, by decide +kernel, by decide, yP_216⟩
theorem lk_9_437 : lkP 9 (437, 0, 215) := ⟨t_1565, t_1567, ts_111, by decide +kernel, by decide, yP_215⟩
theorem lk_9_441 : lkP 9 (441, 1, 222) := ⟨t_1593, t_1594, by decide +kernel, yP_222⟩
theorem lk_9_444 : lkP 9 (444, 0, 221) := ⟨t_1596, t_1598, ts_114, by decide +kernel, by decide, yP_221⟩
theorem lk_9_447 : lkP 9 (447, 1, 224) := ⟨t_1603, t_1604, by decide +kernel, yP_224⟩
theorem lk_9_450 : lkP 9 (450, 0, 226) := ⟨t_1585, t_1587, ts_112, by decide +kernel, by decide, yP_226⟩
theorem lk_9_453 : lkP 9 (453, 0, 223) := ⟨t_1589, t_1591, ts_113, by decide +kernel, by decide, yP_223⟩
theorem lk_9_456 : lkP 9 (456, 1, 225) := ⟨t_1600, t_1601, by decide +kernel, yP_225⟩
theorem lk_9_460 : lkP 9 (460, 1, 229) := ⟨t_1618, t_1619, by decide +kernel, yP_229⟩
theorem lk_9_466 : lkP 9 (466, 0, 230) := ⟨t_1621, t_1623, ts_116, by decide +kernel, by decide, yP_230⟩
theorem lk_9_472 : lkP 9 (472, 0, 231) := ⟨t_1614, t_1616, ts_115, by decide +kernel, by decide, yP_231⟩
theorem lk_9_475 : lkP 9 (475, 0, 233) := ⟨t_1637, t_1639, ts_119, by decide +kernel, by decide, yP_233⟩
theorem lk_9_478 : lkP 9 (478, 0, 234) := ⟨t_1633, t_1635, ts_118, by decide +kernel, by decide, yP_234⟩
theorem lk_9_484 : lkP 9 (484, 0, 235) := ⟨t_1629, t_1631, ts_117, by decide +kernel, by decide, yP_235⟩
theorem lk_9_487 : lkP 9 (487, 0, 237) := ⟨t_1645, t_1647, ts_120, by decide +kernel, by decide, yP_237⟩
theorem lk_9_490 : lkP 9 (490, 0, 238) := ⟨t_1649, t_1651, ts_121, by decide +kernel, by decide, yP_238⟩
theorem lk_9_493 : lkP 9 (493, 0, 241) := ⟨t_1661, t_1663, ts_122, by decide +kernel, by decide, yP_241⟩
theorem lk_9_496 : lkP 9 (496, 0, 243) := ⟨t_1673, t_1675, ts_124, by decide +kernel, by decide, yP_243⟩
theorem lk_9_499 : lkP 9 (499, 0, 244) := ⟨t_1669, t_1671, ts_123, by decide +kernel, by decide, yP_244⟩
theorem lk_9_502 : lkP 9 (502, 0, 251) := ⟨t_1697, t_1699, ts_126, by decide +kernel, by decide, yP_251⟩
theorem lk_9_505 : lkP 9 (505, 0, 249) := ⟨t_1693, t_1695, ts_125, by decide +kernel, by decide, yP_249⟩
set_option maxRecDepth 20000 in
theorem lk_9 : ∀ q ∈ lnk9, lkP 9 q := List.forall_mem_cons.mpr ⟨lk_9_7, List.forall_mem_cons.mpr ⟨lk_9_176, List.forall_mem_cons.mpr ⟨lk_9_180, List.forall_mem_cons.mpr ⟨lk_9_184, List.forall_mem_cons.mpr ⟨lk_9_187, List.forall_mem_cons.mpr ⟨lk_9_193, List.forall_mem_cons.mpr ⟨lk_9_201, List.forall_mem_cons.mpr ⟨lk_9_208, List.forall_mem_cons.mpr ⟨lk_9_212, List.forall_mem_cons.mpr ⟨lk_9_216, List.forall_mem_cons.mpr ⟨lk_9_220, List.forall_mem_cons.mpr ⟨lk_9_223, List.forall_mem_cons.mpr ⟨lk_9_242, List.forall_mem_cons.mpr ⟨lk_9_245, List.forall_mem_cons.mpr ⟨lk_9_248, List.forall_mem_cons.mpr ⟨lk_9_251, List.forall_mem_cons.mpr ⟨lk_9_272, List.forall_mem_cons.mpr ⟨lk_9_281, List.forall_mem_cons.mpr ⟨lk_9_285, List.forall_mem_cons.mpr ⟨lk_9_288, List.forall_mem_cons.mpr ⟨lk_9_291, List.forall_mem_cons.mpr ⟨lk_9_294, List.forall_mem_cons.mpr ⟨lk_9_297, List.forall_mem_cons.mpr ⟨lk_9_300, List.forall_mem_cons.mpr ⟨lk_9_303, List.forall_mem_cons.mpr ⟨lk_9_307, List.forall_mem_cons.mpr ⟨lk_9_310, List.forall_mem_cons.mpr ⟨lk_9_313, List.forall_mem_cons.mpr ⟨lk_9_316, List.forall_mem_cons.mpr ⟨lk_9_320, List.forall_mem_cons.mpr ⟨lk_9_324, List.forall_mem_cons.mpr ⟨lk_9_327, List.forall_mem_cons.mpr ⟨lk_9_330, List.forall_mem_cons.mpr ⟨lk_9_336, List.forall_mem_cons.mpr ⟨lk_9_339, List.forall_mem_cons.mpr ⟨lk_9_342, List.forall_mem_cons.mpr ⟨lk_9_350, List.forall_mem_cons.mpr ⟨lk_9_354, List.forall_mem_cons.mpr ⟨lk_9_358, List.forall_mem_cons.mpr ⟨lk_9_361, List.forall_mem_cons.mpr ⟨lk_9_364, List.forall_mem_cons.mpr ⟨lk_9_367, List.forall_mem_cons.mpr ⟨lk_9_370, List.forall_mem_cons.mpr ⟨lk_9_373, List.forall_mem_cons.mpr ⟨lk_9_376, List.forall_mem_cons.mpr ⟨lk_9_379, List.forall_mem_cons.mpr ⟨lk_9_382, List.forall_mem_cons.mpr ⟨lk_9_385, List.forall_mem_cons.mpr ⟨lk_9_388, List.forall_mem_cons.mpr ⟨lk_9_391, List.forall_mem_cons.mpr ⟨lk_9_395, List.forall_mem_cons.mpr ⟨lk_9_398, List.forall_mem_cons.mpr ⟨lk_9_401, List.forall_mem_cons.mpr ⟨lk_9_404, List.forall_mem_cons.mpr ⟨lk_9_407, List.forall_mem_cons.mpr ⟨lk_9_410, List.forall_mem_cons.mpr ⟨lk_9_414, List.forall_mem_cons.mpr ⟨lk_9_418, List.forall_mem_cons.mpr ⟨lk_9_421, List.forall_mem_cons.mpr ⟨lk_9_424, List.forall_mem_cons.mpr ⟨lk_9_427, List.forall_mem_cons.mpr ⟨lk_9_430, List.forall_mem_cons.mpr ⟨lk_9_433, List.forall_mem_cons.mpr ⟨lk_9_437, List.forall_mem_cons.mpr ⟨lk_9_441, List.forall_mem_cons.mpr ⟨lk_9_444, List.forall_mem_cons.mpr ⟨lk_9_447, List.forall_mem_cons.mpr ⟨lk_9_450, List.forall_mem_cons.mpr ⟨lk_9_453, List.forall_mem_cons.mpr ⟨lk_9_456, List.forall_mem_cons.mpr ⟨lk_9_460, List.forall_mem_cons.mpr ⟨lk_9_466, List.forall_mem_cons.mpr ⟨lk_9_472, List.forall_mem_cons.mpr ⟨lk_9_475, List.forall_mem_cons.mpr ⟨lk_9_478, List.forall_mem_cons.mpr ⟨lk_9_484, List.forall_mem_cons.mpr ⟨lk_9_487, List.forall_mem_cons.mpr ⟨lk_9_490, List.forall_mem_cons.mpr ⟨lk_9_493, List.forall_mem_cons.mpr ⟨lk_9_496, List.forall_mem_cons.mpr ⟨lk_9_499, List.forall_mem_cons.mpr ⟨lk_9_502, List.forall_mem_cons.mpr ⟨lk_9_505, fun _ h => absurd h List.not_mem_nil⟩⟩⟩⟩⟩⟩⟩⟩⟩⟩⟩⟩⟩⟩⟩⟩⟩⟩⟩⟩⟩⟩⟩⟩⟩⟩⟩⟩⟩⟩⟩⟩⟩⟩⟩⟩⟩⟩⟩⟩⟩⟩⟩⟩⟩⟩⟩⟩⟩⟩⟩⟩⟩⟩⟩⟩⟩⟩⟩⟩⟩⟩⟩⟩⟩⟩⟩⟩⟩⟩⟩⟩⟩⟩⟩⟩⟩⟩⟩⟩⟩⟩⟩
theorem lk_10_9 : lkP 10 (9, 2, 75) := ⟨t_22, t_23, rfl, by decide +kernel, by decide, yP_75, rfl⟩
theorem lk_10_12 : lkP 10 (12, 2, 138) := ⟨t_1031, t_1032, rfl, by decide +kernel, by decide, yP_138, rfl⟩
theorem lk_10_13 : lkP 10 (13, 0, 76) := ⟨t_450, t_451, t_452, by decide +kernel, by decide, yP_76⟩
theorem lk_10_17 : lkP 10 (17, 0, 139) := ⟨t_1283, t_1284, t_1285, by decide +kernel, by decide, yP_139⟩
theorem lk_10_18 : lkP 10 (18, 0, 77) := ⟨t_458, t_459, t_460, by decide +kernel, by decide, yP_77⟩
theorem lk_10_22 : lkP 10 (22, 0, 141) := ⟨t_1291, t_1292, t_1293, by decide +kernel, by decide, yP_141⟩
theorem lk_10_23 : lkP 10 (23, 0, 78) := ⟨t_462, t_463, t_464, by decide +kernel, by decide, yP_78⟩
theorem lk_10_27 : lkP 10 (27, 0, 156) := ⟨t_1295, t_1296, t_1297, by decide +kernel, by decide, yP_156⟩
theorem lk_10_28 : lkP 10 (28, 0, 79) := ⟨t_676, t_677, t_678, by decide +kernel, by decide, yP_79⟩
theorem lk_10_31 : lkP 10 (31, 0, 157) := ⟨t_1413, t_1414, t_1415, by decide +kernel, by decide, yP_157⟩
theorem lk_10_32 : lkP 10 (32, 0, 80) := ⟨t_680, t_681, t_682, by decide +kernel, by decide, yP_80⟩
theorem lk_10_36 : lkP 10 (36, 0, 202) := ⟨t_1417, t_1418, t_1419, by decide +kernel, by decide, yP_202⟩
theorem lk_10_37 : lkP 10 (37, 0, 81) := ⟨t_688, t_689, t_690, by decide +kernel, by decide, yP_81⟩
theorem lk_10_41 : lkP 10 (41, 0, 204) := ⟨t_1436, t_1437, t_1438, by decide +kernel, by decide, yP_204⟩
theorem lk_10_42 : lkP 10 (42, 0, 82) := ⟨t_696, t_697, t_698, by decide +kernel, by decide, yP_82⟩
theorem lk_10_45 : lkP 10 (45, 0, 205) := ⟨t_1448, t_1449, t_1450, by decide +kernel, by decide, yP_205⟩
theorem lk_10_46 : lkP 10 (46, 0, 83) := ⟨t_719, t_720, t_721, by decide +kernel, by decide, yP_83⟩
theorem lk_10_49 : lkP 10 (49, 0, 206) := ⟨t_1468, t_1469, t_1470, by decide +kernel, by decide, yP_206⟩
theorem lk_10_50 : lkP 10 (50, 0, 85) := ⟨t_735, t_736, t_737, by decide +kernel, by decide, yP_85⟩
theorem lk_10_54 : lkP 10 (54, 0, 208) := ⟨t_1472, t_1473, t_1474, by decide +kernel, by decide, yP_208⟩
theorem lk_10_55 : lkP 10 (55, 0, 86) := ⟨t_754, t_755, t_756, by decide +kernel, by decide, yP_86⟩
theorem lk_10_58 : lkP 10 (58, 0, 209) := ⟨t_1483, t_1484, t_1485, by decide +kernel, by decide, yP_209⟩
theorem lk_10_59 : lkP 10 (59, 0, 87) := ⟨t_809, t_810, t_811, by decide +kernel, by decide, yP_87⟩
theorem lk_10_62 : lkP 10 (62, 0, 210) := ⟨t_1530, t_1531, t_1532, by decide +kernel, by decide, yP_210⟩
theorem lk_10_63 : lkP 10 (63, 0, 88) := ⟨t_813, t_814, t_815, by decide +kernel, by decide, yP_88⟩
theorem lk_10_66 : lkP 10 (66, 0, 211) := ⟨t_1534, t_1535, t_1536, by decide +kernel, by decide, yP_211⟩
theorem lk_10_67 : lkP 10 (67, 0, 89) := ⟨t_829, t_830, t_831, by decide +kernel, by decide, yP_89⟩
theorem lk_10_71 : lkP 10 (71, 0, 212) := ⟨t_1545, t_1546, t_1547, by decide +kernel, by decide, yP_212⟩
theorem lk_10_72 : lkP 10 (72, 0, 92) := ⟨t_853, t_854, t_855, by decide +kernel, by decide, yP_92⟩
theorem lk_10_76 : lkP 10 (76, 0, 213) := ⟨t_1549, t_1550, t_1551, by decide +kernel, by decide, yP_213⟩
theorem lk_10_77 : lkP 10 (77, 0, 93) := ⟨t_857, t_858, t_859, by decide +kernel, by decide, yP_93⟩
theorem lk_10_80 : lkP 10 (80, 0, 214) := ⟨t_1553, t_1554, t_1555, by decide +kernel, by decide, yP_214⟩
theorem lk_10_81 : lkP 10 (81, 0, 94) := ⟨t_861, t_862, t_863, by decide +kernel, by decide, yP_94⟩
theorem lk_10_84 : lkP 10 (84, 0, 217) := ⟨t_1557, t_1558, t_1559, by decide +kernel, by decide, yP_217⟩
theorem lk_10_85 : lkP 10 (85, 0, 95) := ⟨t_881, t_882, t_883, by decide +kernel, by decide, yP_95⟩
theorem lk_10_89 : lkP 10 (89, 0, 218) := ⟨t_1569, t_1570, t_1571, by decide +kernel, by decide, yP_218⟩
theorem lk_10_90 : lkP 10 (90, 0, 96) := ⟨t_885, t_886, t_887, by decide +kernel, by decide, yP_96⟩
theorem lk_10_93 : lkP 10 (93, 0, 219) := ⟨t_1573, t_1574, t_1575, by decide +kernel, by decide, yP_219⟩
theorem lk_10_94 : lkP 10 (94, 0, 97) := ⟨t_889, t_890, t_891, by decide +kernel, by decide, yP_97⟩
theorem lk_10_98 : lkP 10 (98, 0, 220) := ⟨t_1577, t_1578, t_1579, by decide +kernel, by decide, yP_220⟩
theorem lk_10_99 : lkP 10 (99, 0, 98) := ⟨t_893, t_894, t_895, by decide +kernel, by decide, yP_98⟩
theorem lk_10_103 : lkP 10 (103, 0, 227) := ⟨t_1581, t_1582, t_1583, by decide +kernel, by decide, yP_227⟩
theorem lk_10_104 : lkP 10 (104, 0, 99) := ⟨t_925, t_926, t_927, by decide +kernel, by decide, yP_99⟩
theorem lk_10_107 : lkP 10 (107, 0, 228) := ⟨t_1606, t_1607, t_1608, by decide +kernel, by decide, yP_228⟩
theorem lk_10_108 : lkP 10 (108, 0, 100) := ⟨t_933, t_934, t_935, by decide +kernel, by decide, yP_100⟩
theorem lk_10_111 : lkP 10 (111, 0, 232) := ⟨t_1610, t_1611, t_1612, by decide +kernel, by decide, yP_232⟩
theorem lk_10_112 : lkP 10 (112, 0, 101) := ⟨t_956, t_957, t_958, by decide +kernel, by decide, yP_101⟩
theorem lk_10_115 : lkP 10 (115, 0, 236) := ⟨t_1625, t_1626, t_1627, by decide +kernel, by decide, yP_236⟩
theorem lk_10_116 : lkP 10 (116, 0, 102) := ⟨t_964, t_965, t_966, by decide +kernel, by decide, yP_102⟩
theorem lk_10_119 : lkP 10 (119, 0, 239) := ⟨t_1641, t_1642, t_1643, by decide +kernel, by decide, yP_239⟩
theorem lk_10_120 : lkP 10 (120, 0, 103) := ⟨t_973, t_974, t_975, by decide +kernel, by decide, yP_103⟩
theorem lk_10_123 : lkP 10 (123, 0, 240) := ⟨t_1653, t_1654, t_1655, by decide +kernel, by decide, yP_240⟩
theorem lk_10_124 : lkP 10 (124, 0, 104) := ⟨t_981, t_982, t_983, by decide +kernel, by decide, yP_104⟩
theorem lk_10_127 : lkP 10 (127, 0, 242) := ⟨t_1657, t_1658, t_1659, by decide +kernel, by decide, yP_242⟩
theorem lk_10_128 : lkP 10 (128, 0, 105) := ⟨t_989, t_990, t_991, by decide +kernel, by decide, yP_105⟩
theorem lk_10_131 : lkP 10 (131, 0, 245) := ⟨t_1665, t_1666, t_1667, by decide +kernel, by decide, yP_245⟩
theorem lk_10_132 : lkP 10 (132, 0, 106) := ⟨t_999, t_1000, t_1001, by decide +kernel, by decide, yP_106⟩
theorem lk_10_135 : lkP 10 (135, 0, 246) := ⟨t_1677, t_1678, t_1679, by decide +kernel, by decide, yP_246⟩
theorem lk_10_136 : lkP 10 (136, 0, 107) := ⟨t_1003, t_1004, t_1005, by decide +kernel, by decide, yP_107⟩
theorem lk_10_139 : lkP 10 (139, 0, 247) := ⟨t_1681, t_1682, t_1683, by decide +kernel, by decide, yP_247⟩
theorem lk_10_140 : lkP 10 (140, 0, 108) := ⟨t_1007, t_1008, t_1009, by decide +kernel, by decide, yP_108⟩
theorem lk_10_143 : lkP 10 (143, 0, 248) := ⟨t_1685, t_1686, t_1687, by decide +kernel, by decide, yP_248⟩
theorem lk_10_144 : lkP 10 (144, 0, 109) := ⟨t_1011, t_1012, t_1013, by decide +kernel, by decide, yP_109⟩
theorem lk_10_147 : lkP 10 (147, 0, 250) := ⟨t_1689, t_1690, t_1691, by decide +kernel, by decide, yP_250⟩
theorem lk_10_148 : lkP 10 (148, 0, 110) := ⟨t_1025, t_1026, t_1027, by decide +kernel, by decide, yP_110⟩
theorem lk_10_151 : lkP 10 (151, 0, 252) := ⟨t_1701, t_1702, t_1703, by decide +kernel, by decide, yP_252⟩
theorem lk_10_152 : lkP 10 (152, 0, 90) := ⟨t_837, t_838, t_839, by decide +kernel, by decide, yP_90⟩
theorem lk_10_156 : lkP 10 (156, 0, 253) := ⟨t_1705, t_1706, t_1707, by decide +kernel, by decide, yP_253⟩
theorem lk_10_157 : lkP 10 (157, 0, 91) := ⟨t_845, t_846, t_847, by decide +kernel, by decide, yP_91⟩
theorem lk_10_160 : lkP 10 (160, 0, 254) := ⟨t_1709, t_1710, t_1711, by decide +kernel, by decide, yP_254⟩
theorem lk_10_161 : lkP 10 (161, 0, 84) := ⟨t_727, t_728, t_729, by decide +kernel, by decide, yP_84⟩
theorem lk_10_164 : lkP 10 (164, 0, 255) := ⟨t_1713, t_1714, t_1715, by decide +kernel, by decide, yP_255⟩
set_option maxRecDepth 20000 in
theorem lk_10 : ∀ q ∈ lnk10, lkP 10 q := List.forall_mem_cons.mpr ⟨lk_10_9, List.forall_mem_cons.mpr ⟨lk_10_12, List.forall_mem_cons.mpr ⟨lk_10_13, List.forall_mem_cons.mpr ⟨lk_10_17, List.forall_mem_cons.mpr ⟨lk_10_18, List.forall_mem_cons.mpr ⟨lk_10_22, List.forall_mem_cons.mpr ⟨lk_10_23, List.forall_mem_cons.mpr ⟨lk_10_27, List.forall_mem_cons.mpr ⟨lk_10_28, List.forall_mem_cons.mpr ⟨lk_10_31, List.forall_mem_cons.mpr ⟨lk_10_32, List.forall_mem_cons.mpr ⟨lk_10_36, List.forall_mem_cons.mpr ⟨lk_10_37, List.forall_mem_cons.mpr ⟨lk_10_41, List.forall_mem_cons.mpr ⟨lk_10_42, List.forall_mem_cons.mpr ⟨lk_10_45, List.forall_mem_cons.mpr ⟨lk_10_46, List.forall_mem_cons.mpr ⟨lk_10_49, List.forall_mem_cons.mpr ⟨lk_10_50, List.forall_mem_cons.mpr ⟨lk_10_54, List.forall_mem_cons.mpr ⟨lk_10_55, List.forall_mem_cons.mpr ⟨lk_10_58, List.forall_mem_cons.mpr ⟨lk_10_59, List.forall_mem_cons.mpr ⟨lk_10_62, List.forall_mem_cons.mpr ⟨lk_10_63, List.forall_mem_cons.mpr ⟨lk_10_66, List.forall_mem_cons.mpr ⟨lk_10_67, List.forall_mem_cons.mpr ⟨lk_10_71, List.forall_mem_cons.mpr ⟨lk_10_72, List.forall_mem_cons.mpr ⟨lk_10_76, List.forall_mem_cons.mpr ⟨lk_10_77, List.forall_mem_cons.mpr ⟨lk_10_80, List.forall_mem_cons.mpr ⟨lk_10_81, List.forall_mem_cons.mpr ⟨lk_10_84, List.forall_mem_cons.mpr ⟨lk_10_85, List.forall_mem_cons.mpr ⟨lk_10_89, List.forall_mem_cons.mpr ⟨lk_10_90, List.forall_mem_cons.mpr ⟨lk_10_93, List.forall_mem_cons.mpr ⟨lk_10_94, List.forall_mem_cons.mpr ⟨lk_10_98, List.forall_mem_cons.mpr ⟨lk_10_99, List.forall_mem_cons.mpr ⟨lk_10_103, List.forall_mem_cons.mpr ⟨lk_10_104, List.forall_mem_cons.mpr ⟨lk_10_107, List.forall_mem_cons.mpr ⟨lk_10_108, List.forall_mem_cons.mpr ⟨lk_10_111, List.forall_mem_cons.mpr ⟨lk_10_112, List.forall_mem_cons.mpr ⟨lk_10_115, List.forall_mem_cons.mpr ⟨lk_10_116, List.forall_mem_cons.mpr ⟨lk_10_119, List.forall_mem_cons.mpr ⟨lk_10_120, List.forall_mem_cons.mpr ⟨lk_10_123, List.forall_mem_cons.mpr ⟨lk_10_124, List.forall_mem_cons.mpr ⟨lk_10_127, List.forall_mem_cons.mpr ⟨lk_10_128, List.forall_mem_cons.mpr ⟨lk_10_131, List.forall_mem_cons.mpr ⟨lk_10_132, List.forall_mem_cons.mpr ⟨lk_10_135, List.forall_mem_cons.mpr ⟨lk_10_136, List.forall_mem_cons.mpr ⟨lk_10_139, List.forall_mem_cons.mpr ⟨lk_10_140, List.forall_mem_cons.mpr ⟨lk_10_143, List.forall_mem_cons.mpr ⟨lk_10_144, List.forall_mem_cons.mpr ⟨lk_10_147, List.forall_mem_cons.mpr ⟨lk_10_148, List.forall_mem_cons.mpr ⟨lk_10_151, List.forall_mem_cons.mpr ⟨lk_10_152, List.forall_mem_cons.mpr ⟨lk_10_156, List.forall_mem_cons.mpr ⟨lk_10_157, List.forall_mem_cons.mpr ⟨lk_10_160, List.forall_mem_cons.mpr ⟨lk_10_161, List.forall_mem_cons.mpr ⟨lk_10_164, fun _ h => absurd h List.not_mem_nil⟩⟩⟩⟩⟩⟩⟩⟩⟩⟩⟩⟩⟩⟩⟩⟩⟩⟩⟩⟩⟩⟩⟩⟩⟩⟩⟩⟩⟩⟩⟩⟩⟩⟩⟩⟩⟩⟩⟩⟩⟩⟩⟩⟩⟩⟩⟩⟩⟩⟩⟩⟩⟩⟩⟩⟩⟩⟩⟩⟩⟩⟩⟩⟩⟩⟩⟩⟩⟩⟩⟩⟩
set_option maxRecDepth 20000 in
theorem lk_11 : ∀ q ∈ lnk11, lkP 11 q := fun _ h => absurd h List.not_mem_nil
set_option maxRecDepth 20000 in
theorem lk_12 : ∀ q ∈ lnk12, lkP 12 q := fun _ h => absurd h List.not_mem_nil
theorem lk_13_335 : lkP 13 (335, 0, 261) := ⟨t_45, t_46, t_47, by decide +kernel, by decide, yP_261⟩
theorem lk_13_492 : lkP 13 (492, 0, 262) := ⟨t_55, t_56, t_57, by decide +kernel, by decide, yP_262⟩
theorem lk_13_495 : lkP 13 (495, 1, 264) := ⟨t_59, t_60, by decide +kernel, yP_264⟩
theorem lk_13_505 : lkP 13 (505, 0, 257) := ⟨t_510, t_42, t_43, by decide +kernel, by decide, yP_257⟩
theorem lk_13_633 : lkP 13 (633, 0, 260) := ⟨t_506, t_507, t_508, by decide +kernel, by decide, yP_260⟩
theorem lk_13_637 : lkP 13 (637, 1, 266) := ⟨t_511, t_512, by decide +kernel, yP_266⟩
theorem lk_13_1059 : lkP 13 (1059, 1, 270) := ⟨t_67, t_68, by decide +kernel, yP_270⟩
set_option maxRecDepth 20000 in
theorem lk_13 : ∀ q ∈ lnk13, lkP 13 q := List.forall_mem_cons.mpr ⟨lk_13_335, List.forall_mem_cons.mpr ⟨lk_13_492, List.forall_mem_cons.mpr ⟨lk_13_495, List.forall_mem_cons.mpr ⟨lk_13_505, List.forall_mem_cons.mpr ⟨lk_13_633, List.forall_mem_cons.mpr ⟨lk_13_637, List.forall_mem_cons.mpr ⟨lk_13_1059, fun _ h => absurd h List.not_mem_nil⟩⟩⟩⟩⟩⟩⟩
theorem lk_14_9 : lkP 14 (9, 1, 263) := ⟨t_62, t_63, by decide +kernel, yP_263⟩
theorem lk_14_38 : lkP 14 (38, 7, 0) := t_520
theorem lk_14_88 : lkP 14 (88, 1, 265) := ⟨t_514, t_515, by decide +kernel, yP_265⟩
theorem lk_14_92 : lkP 14 (92, 6, 0) := t_517
theorem lk_14_95 : lkP 14 (95, 1, 267) := ⟨t_523, t_524, by decide +kernel, yP_267⟩
set_option maxRecDepth 20000 in
theorem lk_14 : ∀ q ∈ lnk14, lkP 14 q := List.forall_mem_cons.mpr ⟨lk_14_9, List.forall_mem_cons.mpr ⟨lk_14_38, List.forall_mem_cons.mpr ⟨lk_14_88, List.forall_mem_cons.mpr ⟨lk_14_92, List.forall_mem_cons.mpr ⟨lk_14_95, fun _ h => absurd h List.not_mem_nil⟩⟩⟩⟩⟩
set_option maxRecDepth 20000 in
theorem lk_15 : ∀ q ∈ lnk15, lkP 15 q := fun _ h => absurd h List.not_mem_nil
set_option maxRecDepth 20000 in
theorem lk_16 : ∀ q ∈ lnk16, lkP 16 q := fun _ h => absurd h List.not_mem_nil
theorem oiP : Cond.instanceMethod objectInit ∈ tbX ∧ Cond.code objectInit ⟨#[0xb1]⟩ 1 none ∈ tbX := ⟨t_26, t_27⟩
theorem acP : Cond.native arraycopyName ∈ tbX ∧ Cond.static arraycopyName ∈ tbX ∧ Cond.initialized "java/lang/System" ∈ tbX := ⟨t_752, t_751, t_19⟩
theorem mt_max : Cond.static Lib.Math.max.name ∈ tbX ∧ Cond.initialized "java/lang/Math" ∈ tbX ∧ Cond.code Lib.Math.max.name Lib.Math.max.code 2 (some .int) ∈ tbX := ⟨t_518, t_16, t_519⟩
theorem mt_min : Cond.static Lib.Math.min.name ∈ tbX ∧ Cond.initialized "java/lang/Math" ∈ tbX ∧ Cond.code Lib.Math.min.name Lib.Math.min.code 2 (some .int) ∈ tbX := ⟨t_521, t_16, t_522⟩
theorem mt_abs : Cond.static Lib.Math.abs.name ∈ tbX ∧ Cond.initialized "java/lang/Math" ∈ tbX ∧ Cond.code Lib.Math.abs.name Lib.Math.abs.code 1 (some .int) ∈ tbX := ⟨t_783, t_16, t_784⟩
theorem cs_all : ∀ q ∈ cstL, Cond.constant (cn q.1) q.2.1 q.2.2 ∈ tbX := List.forall_mem_cons.mpr ⟨t_704, List.forall_mem_cons.mpr ⟨t_715, List.forall_mem_cons.mpr ⟨t_716, List.forall_mem_cons.mpr ⟨t_717, List.forall_mem_cons.mpr ⟨t_769, List.forall_mem_cons.mpr ⟨t_951, List.forall_mem_cons.mpr ⟨t_1456, List.forall_mem_cons.mpr ⟨t_1505, fun _ h => absurd h List.not_mem_nil⟩⟩⟩⟩⟩⟩⟩⟩
theorem cl_all : ∀ q ∈ cslL, Cond.constantLong (cn q.1) q.2.1 q.2.2 ∈ tbX := List.forall_mem_cons.mpr ⟨t_92, List.forall_mem_cons.mpr ⟨t_93, List.forall_mem_cons.mpr ⟨t_499, List.forall_mem_cons.mpr ⟨t_500, List.forall_mem_cons.mpr ⟨t_912, List.forall_mem_cons.mpr ⟨t_917, List.forall_mem_cons.mpr ⟨t_921, List.forall_mem_cons.mpr ⟨t_972, List.forall_mem_cons.mpr ⟨t_998, List.forall_mem_cons.mpr ⟨t_1045, fun _ h => absurd h List.not_mem_nil⟩⟩⟩⟩⟩⟩⟩⟩⟩⟩
theorem ck_all : ∀ q ∈ clkL, Cond.classLink (cn q.1) q.2.1 (cn q.2.2) ∈ tbX ∧ Cond.instantiable (cn q.2.2) (nfX q.2.2) ∈ tbX ∧ Cond.initialized (cn q.2.2) ∈ tbX := List.forall_mem_cons.mpr ⟨⟨t_20, t_21, t_1⟩, List.forall_mem_cons.mpr ⟨⟨t_28, t_29, t_2⟩, List.forall_mem_cons.mpr ⟨⟨t_34, t_35, t_3⟩, List.forall_mem_cons.mpr ⟨⟨t_162, t_163, t_8⟩, List.forall_mem_cons.mpr ⟨⟨t_191, t_192, t_9⟩, List.forall_mem_cons.mpr ⟨⟨t_207, t_208, t_10⟩, List.forall_mem_cons.mpr ⟨⟨t_221, t_222, t_11⟩, List.forall_mem_cons.mpr ⟨⟨t_243, t_244, t_12⟩, List.forall_mem_cons.mpr ⟨⟨t_249, t_250, t_13⟩, List.forall_mem_cons.mpr ⟨⟨t_1029, t_1030, t_15⟩, fun _ h => absurd h List.not_mem_nil⟩⟩⟩⟩⟩⟩⟩⟩⟩⟩
theorem ar_int : Cond.arrayClass .int ∈ tbX := t_118
theorem ar_long : Cond.arrayClass .long ∈ tbX := t_119
theorem ar_byte : Cond.arrayClass .byte ∈ tbX := t_117
theorem ar_boolean : Cond.arrayClass .boolean ∈ tbX := t_190
theorem us_0 : ∀ w ∈ u_ws RX0 TX0 2, w ∈ tbX := List.forall_mem_cons.mpr ⟨t_216, List.forall_mem_cons.mpr ⟨t_218, fun _ h => absurd h List.not_mem_nil⟩⟩
theorem us_1 : ∀ w ∈ u_ws RX1 TX1 4, w ∈ tbX := List.forall_mem_cons.mpr ⟨t_234, List.forall_mem_cons.mpr ⟨t_236, List.forall_mem_cons.mpr ⟨t_238, List.forall_mem_cons.mpr ⟨t_240, fun _ h => absurd h List.not_mem_nil⟩⟩⟩⟩
theorem us_2 : ∀ w ∈ u_ws RX2 TX2 6, w ∈ tbX := List.forall_mem_cons.mpr ⟨t_177, List.forall_mem_cons.mpr ⟨t_179, List.forall_mem_cons.mpr ⟨t_181, List.forall_mem_cons.mpr ⟨t_183, List.forall_mem_cons.mpr ⟨t_185, List.forall_mem_cons.mpr ⟨t_187, fun _ h => absurd h List.not_mem_nil⟩⟩⟩⟩⟩⟩
theorem us_3 : ∀ w ∈ u_ws RX3 TX3 5, w ∈ tbX := List.forall_mem_cons.mpr ⟨t_262, List.forall_mem_cons.mpr ⟨t_264, List.forall_mem_cons.mpr ⟨t_266, List.forall_mem_cons.mpr ⟨t_268, List.forall_mem_cons.mpr ⟨t_270, fun _ h => absurd h List.not_mem_nil⟩⟩⟩⟩⟩
theorem us_4 : ∀ w ∈ u_ws RX4 TX4 13, w ∈ tbX := List.forall_mem_cons.mpr ⟨t_135, List.forall_mem_cons.mpr ⟨t_137, List.forall_mem_cons.mpr ⟨t_139, List.forall_mem_cons.mpr ⟨t_141, List.forall_mem_cons.mpr ⟨t_143, List.forall_mem_cons.mpr ⟨t_145, List.forall_mem_cons.mpr ⟨t_147, List.forall_mem_cons.mpr ⟨t_149, List.forall_mem_cons.mpr ⟨t_151, List.forall_mem_cons.mpr ⟨t_153, List.forall_mem_cons.mpr ⟨t_155, List.forall_mem_cons.mpr ⟨t_157, List.forall_mem_cons.mpr ⟨t_159, fun _ h => absurd h List.not_mem_nil⟩⟩⟩⟩⟩⟩⟩⟩⟩⟩⟩⟩⟩
theorem us_5 : ∀ w ∈ u_ws RX5 TX5 20, w ∈ tbX := List.forall_mem_cons.mpr ⟨t_340, List.forall_mem_cons.mpr ⟨t_342, List.forall_mem_cons.mpr ⟨t_344, List.forall_mem_cons.mpr ⟨t_346, List.forall_mem_cons.mpr ⟨t_348, List.forall_mem_cons.mpr ⟨t_350, List.forall_mem_cons.mpr ⟨t_352, List.forall_mem_cons.mpr ⟨t_354, List.forall_mem_cons.mpr ⟨t_356, List.forall_mem_cons.mpr ⟨t_358, List.forall_mem_cons.mpr ⟨t_360, List.forall_mem_cons.mpr ⟨t_362, List.forall_mem_cons.mpr ⟨t_364, List.forall_mem_cons.mpr ⟨t_366, List.forall_mem_cons.mpr ⟨t_368, List.forall_mem_cons.mpr ⟨t_370, List.forall_mem_cons.mpr ⟨t_372, List.forall_mem_cons.mpr ⟨t_374, List.forall_mem_cons.mpr ⟨t_376, List.forall_mem_cons.mpr ⟨t_378, fun _ h => absurd h List.not_mem_nil⟩⟩⟩⟩⟩⟩⟩⟩⟩⟩⟩⟩⟩⟩⟩⟩⟩⟩⟩⟩
theorem us_6 : ∀ w ∈ u_ws RX6 TX6 6, w ∈ tbX := List.forall_mem_cons.mpr ⟨t_104, List.forall_mem_cons.mpr ⟨t_106, List.forall_mem_cons.mpr ⟨t_108, List.forall_mem_cons.mpr ⟨t_110, List.forall_mem_cons.mpr ⟨t_112, List.forall_mem_cons.mpr ⟨t_114, fun _ h => absurd h List.not_mem_nil⟩⟩⟩⟩⟩⟩
theorem us_7 : ∀ w ∈ u_ws RX7 TX7 2, w ∈ tbX := List.forall_mem_cons.mpr ⟨t_202, List.forall_mem_cons.mpr ⟨t_204, fun _ h => absurd h List.not_mem_nil⟩⟩
theorem us_8 : ∀ w ∈ u_ws RX8 TX8 15, w ∈ tbX := List.forall_mem_cons.mpr ⟨t_421, List.forall_mem_cons.mpr ⟨t_419, List.forall_mem_cons.mpr ⟨t_423, List.forall_mem_cons.mpr ⟨t_425, List.forall_mem_cons.mpr ⟨t_427, List.forall_mem_cons.mpr ⟨t_429, List.forall_mem_cons.mpr ⟨t_431, List.forall_mem_cons.mpr ⟨t_433, List.forall_mem_cons.mpr ⟨t_435, List.forall_mem_cons.mpr ⟨t_437, List.forall_mem_cons.mpr ⟨t_439, List.forall_mem_cons.mpr ⟨t_441, List.forall_mem_cons.mpr ⟨t_443, List.forall_mem_cons.mpr ⟨t_445, List.forall_mem_cons.mpr ⟨t_447, fun _ h => absurd h List.not_mem_nil⟩⟩⟩⟩⟩⟩⟩⟩⟩⟩⟩⟩⟩⟩⟩
theorem us_9 : ∀ w ∈ u_ws RX9 TX9 75, w ∈ tbX := List.forall_mem_cons.mpr ⟨t_1132, List.forall_mem_cons.mpr ⟨t_1134, List.forall_mem_cons.mpr ⟨t_1136, List.forall_mem_cons.mpr ⟨t_1138, List.forall_mem_cons.mpr ⟨t_1140, List.forall_mem_cons.mpr ⟨t_1142, List.forall_mem_cons.mpr ⟨t_1144, List.forall_mem_cons.mpr ⟨t_1146, List.forall_mem_cons.mpr ⟨t_1148, List.forall_mem_cons.mpr ⟨t_1150, List.forall_mem_cons.mpr ⟨t_1152, List.forall_mem_cons.mpr ⟨t_1154, List.forall_mem_cons.mpr ⟨t_1156, List.forall_mem_cons.mpr ⟨t_1158, List.forall_mem_cons.mpr ⟨t_1160, List.forall_mem_cons.mpr ⟨t_1162, List.forall_mem_cons.mpr ⟨t_1164, List.forall_mem_cons.mpr ⟨t_1166, List.forall_mem_cons.mpr ⟨t_1168, List.forall_mem_cons.mpr ⟨t_1170, List.forall_mem_cons.mpr ⟨t_1172, List.forall_mem_cons.mpr ⟨t_1174, List.forall_mem_cons.mpr ⟨t_1176, List.forall_mem_cons.mpr ⟨t_1178, List.forall_mem_cons.mpr ⟨t_1180, List.forall_mem_cons.mpr ⟨t_1182, List.forall_mem_cons.mpr ⟨t_1184, List.forall_mem_cons.mpr ⟨t_1186, List.forall_mem_cons.mpr ⟨t_1188, List.forall_mem_cons.mpr ⟨t_1190, List.forall_mem_cons.mpr ⟨t_1192, List.forall_mem_cons.mpr ⟨t_1194, List.forall_mem_cons.mpr ⟨t_1196, List.forall_mem_cons.mpr ⟨t_1198, List.forall_mem_cons.mpr ⟨t_1200, List.forall_mem_cons.mpr ⟨t_1202, List.forall_mem_cons.mpr ⟨t_1204, List.forall_mem_cons.mpr ⟨t_1206, List.forall_mem_cons.mpr ⟨t_1208, List.forall_mem_cons.mpr ⟨t_1210, List.forall_mem_cons.mpr ⟨t_1212, List.forall_mem_cons.mpr ⟨t_1214, List.forall_mem_cons.mpr ⟨t_1216, List.forall_mem_cons.mpr ⟨t_1218, List.forall_mem_cons.mpr ⟨t_1220, List.forall_mem_cons.mpr ⟨t_1222, List.forall_mem_cons.mpr ⟨t_1224, List.forall_mem_cons.mpr ⟨t_1226, List.forall_mem_cons.mpr ⟨t_1228, List.forall_mem_cons.mpr ⟨t_1230, List.forall_mem_cons.mpr ⟨t_1232, List.forall_mem_cons.mpr ⟨t_1234, List.forall_mem_cons.mpr ⟨t_1236, List.forall_mem_cons.mpr ⟨t_1238, List.forall_mem_cons.mpr ⟨t_1240, List.forall_mem_cons.mpr ⟨t_1242, List.forall_mem_cons.mpr ⟨t_1244, List.forall_mem_cons.mpr ⟨t_1246, List.forall_mem_cons.mpr ⟨t_1248, List.forall_mem_cons.mpr ⟨t_1250, List.forall_mem_cons.mpr ⟨t_1252, List.forall_mem_cons.mpr ⟨t_1254, List.forall_mem_cons.mpr ⟨t_1256, List.forall_mem_cons.mpr ⟨t_1258, List.forall_mem_cons.mpr ⟨t_1260, List.forall_mem_cons.mpr ⟨t_1262, List.forall_mem_cons.mpr ⟨t_1264, List.forall_mem_cons.mpr ⟨t_1266, List.forall_mem_cons.mpr ⟨t_1268, List.forall_mem_cons.mpr ⟨t_1270, List.forall_mem_cons.mpr ⟨t_1272, List.forall_mem_cons.mpr ⟨t_1274, List.forall_mem_cons.mpr ⟨t_1276, List.forall_mem_cons.mpr ⟨t_1278, List.forall_mem_cons.mpr ⟨t_1280, fun _ h => absurd h List.not_mem_nil⟩⟩⟩⟩⟩⟩⟩⟩⟩⟩⟩⟩⟩⟩⟩⟩⟩⟩⟩⟩⟩⟩⟩⟩⟩⟩⟩⟩⟩⟩⟩⟩⟩⟩⟩⟩⟩⟩⟩⟩⟩⟩⟩⟩⟩⟩⟩⟩⟩⟩⟩⟩⟩⟩⟩⟩⟩⟩⟩⟩⟩⟩⟩⟩⟩⟩⟩⟩⟩⟩⟩⟩⟩⟩⟩
-- (Jvm.Cond.fieldLink "java/lang/String" (38 : Nat) "java/lang/String" "COMPACT_STRINGS" "Z")
-- (Jvm.Cond.fieldLink "java/lang/String" (1053 : Nat) "jdk/internal/util/Preconditions" "SIOOBE_FORMATTER" "Ljava/util/function/BiFunction;")
theorem gs_38 : Cond.fieldLink "java/lang/String" 38 "java/lang/String" "COMPACT_STRINGS" "Z" ∈ tbX := t_49
theorem gs_1053 : Cond.fieldLink "java/lang/String" 1053 "jdk/internal/util/Preconditions" "SIOOBE_FORMATTER" "Ljava/util/function/BiFunction;" ∈ tbX := t_65
