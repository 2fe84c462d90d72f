/-! word lists of one's own: each method's own words, then its callees' lists whole -/
abbrev gdW (w : Cond) : Prop := (w.onTables && w.keeps) = true ∨ ∃ ty, w = .arrayClass ty
theorem gd_all {l : List Cond} (h : l.all goodWord = true) : ∀ w ∈ l, gdW w := fun w hw => good_of_word (List.all_eq_true.mp h w hw)
theorem gd_app {a b : List Cond} (ha : ∀ w ∈ a, gdW w) (hb : ∀ w ∈ b, gdW w) : ∀ w ∈ a ++ b, gdW w := fun w h => (List.mem_append.mp h).elim (ha w) (hb w)
theorem gd_cons {c : Cond} {b : List Cond} (hc : goodWord c = true) (hb : ∀ w ∈ b, gdW w) : ∀ w ∈ c :: b, gdW w := fun w h => (List.mem_cons.mp h).elim (fun e => e ▸ good_of_word hc) (hb w)
theorem gd_nil : ∀ w ∈ ([] : List Cond), gdW w := fun _ h => nomatch h
theorem gd_V {own : String} {idx : Nat} {C : String} {y : MethodName} {vs : List Cond} (h : ∀ w ∈ vs, gdW w) : ∀ w ∈ wsV own idx C y vs, gdW w := gd_app (gd_all rfl) h
theorem gd_ws {C : String} {T : u_T} {N : Nat} : ∀ w ∈ u_ws C T N, gdW w := fun w hw => by
  obtain ⟨k, -, rfl⟩ := List.mem_map.mp hw
  unfold u_lay
  split <;> exact good_of_word rfl
theorem gd_f (l : List Cond) : ∀ w ∈ l.filter goodWord, gdW w := fun w hw => good_of_word (List.mem_filter.mp hw).2
theorem in_app {a b big : List Cond} (ha : ∀ w ∈ a, w ∈ big) (hb : ∀ w ∈ b, w ∈ big) : ∀ w ∈ a ++ b, w ∈ big := fun w h => (List.mem_append.mp h).elim (ha w) (hb w)
theorem in_cons {c : Cond} {b big : List Cond} (hc : c ∈ big) (hb : ∀ w ∈ b, w ∈ big) : ∀ w ∈ c :: b, w ∈ big := fun w h => (List.mem_cons.mp h).elim (fun e => e ▸ hc) (hb w)
theorem in_nil {big : List Cond} : ∀ w ∈ ([] : List Cond), w ∈ big := fun _ h => nomatch h
def vsX0_await_o : List Cond := [.fieldLink RX0 15 "GuardedGrammar$Reader" "open" "I", .fieldLink RX0 9 "GuardedGrammar$Reader" "waiting" "[I"]
set_option maxRecDepth 20000 in
theorem vsX0_await_oin : ∀ w ∈ vsX0_await_o, w ∈ lw_tbl := wsL_mem _ [180, 179] (by decide +kernel)
def vsX0_await : List Cond := .code yX0_await cX0_await 2 none :: (vsX0_await_o ++ (wsX00 ++ ([] : List Cond)))
theorem gd_X0_await : ∀ w ∈ vsX0_await, gdW w := gd_cons rfl (gd_app (gd_all (by decide +kernel)) (gd_app (gd_ws) gd_nil))
set_option maxRecDepth 20000 in
theorem in_X0_await : ∀ w ∈ vsX0_await, w ∈ lw_tbl := in_cons (List.mem_of_getElem? (i := 645) (by decide +kernel)) (in_app (vsX0_await_oin) (in_app (wsX00_in) in_nil))
theorem mX0_await_o : ∀ w ∈ vsX0_await_o, w ∈ vsX0_await := fun w h => List.mem_cons_of_mem _ (List.mem_append_left _ h)
theorem mX0_await_wsX00 : ∀ w ∈ wsX00, w ∈ vsX0_await := fun w h => List.mem_cons_of_mem _ (List.mem_append_right _ (List.mem_append_left _ h))
def vsX6_size_o : List Cond := [.fieldLink RX6 15 "GuardedGrammar$Word" "size" "I"]
set_option maxRecDepth 20000 in
theorem vsX6_size_oin : ∀ w ∈ vsX6_size_o, w ∈ lw_tbl := wsL_mem _ [151] (by decide +kernel)
def vsX6_size : List Cond := .code yX6_size cX6_size 1 (some .int) :: (vsX6_size_o ++ (wsX60 ++ ([] : List Cond)))
theorem gd_X6_size : ∀ w ∈ vsX6_size, gdW w := gd_cons rfl (gd_app (gd_all (by decide +kernel)) (gd_app (gd_ws) gd_nil))
set_option maxRecDepth 20000 in
theorem in_X6_size : ∀ w ∈ vsX6_size, w ∈ lw_tbl := in_cons (List.mem_of_getElem? (i := 311) (by decide +kernel)) (in_app (vsX6_size_oin) (in_app (wsX60_in) in_nil))
theorem mX6_size_o : ∀ w ∈ vsX6_size_o, w ∈ vsX6_size := fun w h => List.mem_cons_of_mem _ (List.mem_append_left _ h)
theorem mX6_size_wsX60 : ∀ w ∈ wsX60, w ∈ vsX6_size := fun w h => List.mem_cons_of_mem _ (List.mem_append_right _ (List.mem_append_left _ h))
def vsX6_at_o : List Cond := [.fieldLink RX6 9 "GuardedGrammar$Word" "letters" "[I"]
set_option maxRecDepth 20000 in
theorem vsX6_at_oin : ∀ w ∈ vsX6_at_o, w ∈ lw_tbl := wsL_mem _ [150] (by decide +kernel)
def vsX6_at : List Cond := .code yX6_at cX6_at 2 (some .int) :: (vsX6_at_o ++ (wsX60 ++ ([] : List Cond)))
theorem gd_X6_at : ∀ w ∈ vsX6_at, gdW w := gd_cons rfl (gd_app (gd_all (by decide +kernel)) (gd_app (gd_ws) gd_nil))
set_option maxRecDepth 20000 in
theorem in_X6_at : ∀ w ∈ vsX6_at, w ∈ lw_tbl := in_cons (List.mem_of_getElem? (i := 626) (by decide +kernel)) (in_app (vsX6_at_oin) (in_app (wsX60_in) in_nil))
theorem mX6_at_o : ∀ w ∈ vsX6_at_o, w ∈ vsX6_at := fun w h => List.mem_cons_of_mem _ (List.mem_append_left _ h)
theorem mX6_at_wsX60 : ∀ w ∈ wsX60, w ∈ vsX6_at := fun w h => List.mem_cons_of_mem _ (List.mem_append_right _ (List.mem_append_left _ h))
def vsX4_left_o : List Cond := [.fieldLink RX4 18 "GuardedGrammar$Terms" "lefts" "[I"]
set_option maxRecDepth 20000 in
theorem vsX4_left_oin : ∀ w ∈ vsX4_left_o, w ∈ lw_tbl := wsL_mem _ [88] (by decide +kernel)
def vsX4_left : List Cond := .code yX4_left cX4_left 2 (some .int) :: (vsX4_left_o ++ (wsX40 ++ ([] : List Cond)))
theorem gd_X4_left : ∀ w ∈ vsX4_left, gdW w := gd_cons rfl (gd_app (gd_all (by decide +kernel)) (gd_app (gd_ws) gd_nil))
set_option maxRecDepth 20000 in
theorem in_X4_left : ∀ w ∈ vsX4_left, w ∈ lw_tbl := in_cons (List.mem_of_getElem? (i := 536) (by decide +kernel)) (in_app (vsX4_left_oin) (in_app (wsX40_in) in_nil))
theorem mX4_left_o : ∀ w ∈ vsX4_left_o, w ∈ vsX4_left := fun w h => List.mem_cons_of_mem _ (List.mem_append_left _ h)
theorem mX4_left_wsX40 : ∀ w ∈ wsX40, w ∈ vsX4_left := fun w h => List.mem_cons_of_mem _ (List.mem_append_right _ (List.mem_append_left _ h))
def vsX4_right_o : List Cond := [.fieldLink RX4 21 "GuardedGrammar$Terms" "rights" "[I"]
set_option maxRecDepth 20000 in
theorem vsX4_right_oin : ∀ w ∈ vsX4_right_o, w ∈ lw_tbl := wsL_mem _ [89] (by decide +kernel)
def vsX4_right : List Cond := .code yX4_right cX4_right 2 (some .int) :: (vsX4_right_o ++ (wsX40 ++ ([] : List Cond)))
theorem gd_X4_right : ∀ w ∈ vsX4_right, gdW w := gd_cons rfl (gd_app (gd_all (by decide +kernel)) (gd_app (gd_ws) gd_nil))
set_option maxRecDepth 20000 in
theorem in_X4_right : ∀ w ∈ vsX4_right, w ∈ lw_tbl := in_cons (List.mem_of_getElem? (i := 540) (by decide +kernel)) (in_app (vsX4_right_oin) (in_app (wsX40_in) in_nil))
theorem mX4_right_o : ∀ w ∈ vsX4_right_o, w ∈ vsX4_right := fun w h => List.mem_cons_of_mem _ (List.mem_append_left _ h)
theorem mX4_right_wsX40 : ∀ w ∈ wsX40, w ∈ vsX4_right := fun w h => List.mem_cons_of_mem _ (List.mem_append_right _ (List.mem_append_left _ h))
def vsX5_side_o : List Cond := [.fieldLink RX5 38 "GuardedGrammar$Typing" "terms" "LGuardedGrammar$Terms;", .fieldLink RX5 28 "GuardedGrammar$Typing" "firsts" "[I", .fieldLink RX5 25 "GuardedGrammar$Typing" "nullable" "[Z"]
set_option maxRecDepth 20000 in
theorem vsX5_side_oin : ∀ w ∈ vsX5_side_o, w ∈ lw_tbl := wsL_mem _ [115, 121, 120] (by decide +kernel)
def vsX5_side : List Cond := .code yX5_side cX5_side 5 (some .int) :: (vsX5_side_o ++ (wsX50 ++ (wsV RX5 53 RX4 yX4_left vsX4_left ++ (wsV RX5 59 RX4 yX4_right vsX4_right ++ ([] : List Cond)))))
theorem gd_X5_side : ∀ w ∈ vsX5_side, gdW w := gd_cons rfl (gd_app (gd_all (by decide +kernel)) (gd_app (gd_ws) (gd_app (gd_V gd_X4_left) (gd_app (gd_V gd_X4_right) gd_nil))))
set_option maxRecDepth 20000 in
theorem in_X5_side : ∀ w ∈ vsX5_side, w ∈ lw_tbl := in_cons (List.mem_of_getElem? (i := 668) (by decide +kernel)) (in_app (vsX5_side_oin) (in_app (wsX50_in) (in_app (in_app (wsL_mem _ [533, 534, 535, 54] (by decide +kernel)) in_X4_left) (in_app (in_app (wsL_mem _ [537, 538, 539, 54] (by decide +kernel)) in_X4_right) in_nil))))
theorem mX5_side_o : ∀ w ∈ vsX5_side_o, w ∈ vsX5_side := fun w h => List.mem_cons_of_mem _ (List.mem_append_left _ h)
theorem mX5_side_wsX50 : ∀ w ∈ wsX50, w ∈ vsX5_side := fun w h => List.mem_cons_of_mem _ (List.mem_append_right _ (List.mem_append_left _ h))
theorem gX5_side_X4_left : GoodIn vsX5_side (wsV RX5 53 RX4 yX4_left vsX4_left) := fun w h => ⟨List.mem_cons_of_mem _ (List.mem_append_right _ (List.mem_append_right _ (List.mem_append_left _ h))), gd_V gd_X4_left w h⟩
theorem gX5_side_X4_right : GoodIn vsX5_side (wsV RX5 59 RX4 yX4_right vsX4_right) := fun w h => ⟨List.mem_cons_of_mem _ (List.mem_append_right _ (List.mem_append_right _ (List.mem_append_right _ (List.mem_append_left _ h)))), gd_V gd_X4_right w h⟩
def vsX2_add_o : List Cond := [.fieldLink RX2 15 "GuardedGrammar$Steps" "size" "I", .fieldLink RX2 9 "GuardedGrammar$Steps" "bits" "[J", .constantLong RX2 19 (-1)]
set_option maxRecDepth 20000 in
theorem vsX2_add_oin : ∀ w ∈ vsX2_add_o, w ∈ lw_tbl := wsL_mem _ [170, 169, 673] (by decide +kernel)
def vsX2_add : List Cond := .code yX2_add cX2_add 5 none :: (vsX2_add_o ++ (wsX20 ++ ([] : List Cond)))
theorem gd_X2_add : ∀ w ∈ vsX2_add, gdW w := gd_cons rfl (gd_app (gd_all (by decide +kernel)) (gd_app (gd_ws) gd_nil))
set_option maxRecDepth 20000 in
theorem in_X2_add : ∀ w ∈ vsX2_add, w ∈ lw_tbl := in_cons (List.mem_of_getElem? (i := 672) (by decide +kernel)) (in_app (vsX2_add_oin) (in_app (wsX20_in) in_nil))
theorem mX2_add_o : ∀ w ∈ vsX2_add_o, w ∈ vsX2_add := fun w h => List.mem_cons_of_mem _ (List.mem_append_left _ h)
theorem mX2_add_wsX20 : ∀ w ∈ wsX20, w ∈ vsX2_add := fun w h => List.mem_cons_of_mem _ (List.mem_append_right _ (List.mem_append_left _ h))
def vsX0_choose_o : List Cond := [.fieldLink RX0 19 "GuardedGrammar$Reader" "place" "I", .fieldLink RX0 39 "GuardedGrammar$Reader" "typing" "LGuardedGrammar$Typing;", .fieldLink RX0 28 "GuardedGrammar$Reader" "made" "LGuardedGrammar$Steps;", .fieldLink RX0 35 "GuardedGrammar$Reader" "terms" "LGuardedGrammar$Terms;"]
set_option maxRecDepth 20000 in
theorem vsX0_choose_oin : ∀ w ∈ vsX0_choose_o, w ∈ lw_tbl := wsL_mem _ [181, 178, 183, 177] (by decide +kernel)
def vsX0_choose : List Cond := .code yX0_choose cX0_choose 5 (some .boolean) :: (vsX0_choose_o ++ (wsX00 ++ (wsV RX0 55 RX6 yX6_size vsX6_size ++ (wsV RX0 87 RX6 yX6_at vsX6_at ++ (wsV RX0 90 RX5 yX5_side vsX5_side ++ (wsV RX0 94 RX2 yX2_add vsX2_add ++ (wsV RX0 76 RX4 yX4_left vsX4_left ++ (wsV RX0 73 RX4 yX4_right vsX4_right ++ (wsV RX0 46 RX0 yX0_await vsX0_await ++ ([] : List Cond))))))))))
theorem gd_X0_choose : ∀ w ∈ vsX0_choose, gdW w := gd_cons rfl (gd_app (gd_all (by decide +kernel)) (gd_app (gd_ws) (gd_app (gd_V gd_X6_size) (gd_app (gd_V gd_X6_at) (gd_app (gd_V gd_X5_side) (gd_app (gd_V gd_X2_add) (gd_app (gd_V gd_X4_left) (gd_app (gd_V gd_X4_right) (gd_app (gd_V gd_X0_await) gd_nil)))))))))
set_option maxRecDepth 20000 in
theorem in_X0_choose : ∀ w ∈ vsX0_choose, w ∈ lw_tbl := in_cons (List.mem_of_getElem? (i := 664) (by decide +kernel)) (in_app (vsX0_choose_oin) (in_app (wsX00_in) (in_app (in_app (wsL_mem _ [657, 309, 310, 56] (by decide +kernel)) in_X6_size) (in_app (in_app (wsL_mem _ [658, 624, 625, 56] (by decide +kernel)) in_X6_at) (in_app (in_app (wsL_mem _ [665, 666, 667, 55] (by decide +kernel)) in_X5_side) (in_app (in_app (wsL_mem _ [669, 670, 671, 58] (by decide +kernel)) in_X2_add) (in_app (in_app (wsL_mem _ [660, 534, 535, 54] (by decide +kernel)) in_X4_left) (in_app (in_app (wsL_mem _ [659, 538, 539, 54] (by decide +kernel)) in_X4_right) (in_app (in_app (wsL_mem _ [642, 644, 16, 57] (by decide +kernel)) in_X0_await) in_nil)))))))))
theorem mX0_choose_o : ∀ w ∈ vsX0_choose_o, w ∈ vsX0_choose := fun w h => List.mem_cons_of_mem _ (List.mem_append_left _ h)
theorem mX0_choose_wsX00 : ∀ w ∈ wsX00, w ∈ vsX0_choose := fun w h => List.mem_cons_of_mem _ (List.mem_append_right _ (List.mem_append_left _ h))
theorem gX0_choose_X6_size : GoodIn vsX0_choose (wsV RX0 55 RX6 yX6_size vsX6_size) := fun w h => ⟨List.mem_cons_of_mem _ (List.mem_append_right _ (List.mem_append_right _ (List.mem_append_left _ h))), gd_V gd_X6_size w h⟩
theorem gX0_choose_X6_at : GoodIn vsX0_choose (wsV RX0 87 RX6 yX6_at vsX6_at) := fun w h => ⟨List.mem_cons_of_mem _ (List.mem_append_right _ (List.mem_append_right _ (List.mem_append_right _ (List.mem_append_left _ h)))), gd_V gd_X6_at w h⟩
theorem gX0_choose_X5_side : GoodIn vsX0_choose (wsV RX0 90 RX5 yX5_side vsX5_side) := fun w h => ⟨List.mem_cons_of_mem _ (List.mem_append_right _ (List.mem_append_right _ (List.mem_append_right _ (List.mem_append_right _ (List.mem_append_left _ h))))), gd_V gd_X5_side w h⟩
theorem gX0_choose_X2_add : GoodIn vsX0_choose (wsV RX0 94 RX2 yX2_add vsX2_add) := fun w h => ⟨List.mem_cons_of_mem _ (List.mem_append_right _ (List.mem_append_right _ (List.mem_append_right _ (List.mem_append_right _ (List.mem_append_right _ (List.mem_append_left _ h)))))), gd_V gd_X2_add w h⟩
theorem gX0_choose_X4_left : GoodIn vsX0_choose (wsV RX0 76 RX4 yX4_left vsX4_left) := fun w h => ⟨List.mem_cons_of_mem _ (List.mem_append_right _ (List.mem_append_right _ (List.mem_append_right _ (List.mem_append_right _ (List.mem_append_right _ (List.mem_append_right _ (List.mem_append_left _ h))))))), gd_V gd_X4_left w h⟩
theorem gX0_choose_X4_right : GoodIn vsX0_choose (wsV RX0 73 RX4 yX4_right vsX4_right) := fun w h => ⟨List.mem_cons_of_mem _ (List.mem_append_right _ (List.mem_append_right _ (List.mem_append_right _ (List.mem_append_right _ (List.mem_append_right _ (List.mem_append_right _ (List.mem_append_right _ (List.mem_append_left _ h)))))))), gd_V gd_X4_right w h⟩
theorem gX0_choose_X0_await : GoodIn vsX0_choose (wsV RX0 46 RX0 yX0_await vsX0_await) := fun w h => ⟨List.mem_cons_of_mem _ (List.mem_append_right _ (List.mem_append_right _ (List.mem_append_right _ (List.mem_append_right _ (List.mem_append_right _ (List.mem_append_right _ (List.mem_append_right _ (List.mem_append_right _ (List.mem_append_left _ h))))))))), gd_V gd_X0_await w h⟩
def vsX2_init_o : List Cond := [.methodLink RX2 3 objectInit, .instanceMethod objectInit, .code objectInit ⟨#[0xb1]⟩ 1 none, .arrayClass .long, .fieldLink RX2 9 "GuardedGrammar$Steps" "bits" "[J", .fieldLink RX2 15 "GuardedGrammar$Steps" "size" "I"]
set_option maxRecDepth 20000 in
theorem vsX2_init_oin : ∀ w ∈ vsX2_init_o, w ∈ lw_tbl := wsL_mem _ [168, 78, 79, 176, 169, 170] (by decide +kernel)
def vsX2_init : List Cond := .code yX2_init cX2_init 1 none :: (vsX2_init_o ++ (wsX20 ++ ([] : List Cond)))
theorem gd_X2_init : ∀ w ∈ vsX2_init, gdW w := gd_cons rfl (gd_app (gd_all (by decide +kernel)) (gd_app (gd_ws) gd_nil))
set_option maxRecDepth 20000 in
theorem in_X2_init : ∀ w ∈ vsX2_init, w ∈ lw_tbl := in_cons (List.mem_of_getElem? (i := 167) (by decide +kernel)) (in_app (vsX2_init_oin) (in_app (wsX20_in) in_nil))
theorem mX2_init_o : ∀ w ∈ vsX2_init_o, w ∈ vsX2_init := fun w h => List.mem_cons_of_mem _ (List.mem_append_left _ h)
theorem mX2_init_wsX20 : ∀ w ∈ wsX20, w ∈ vsX2_init := fun w h => List.mem_cons_of_mem _ (List.mem_append_right _ (List.mem_append_left _ h))
def vsX0_init_o : List Cond := [.methodLink RX0 3 objectInit, .instanceMethod objectInit, .code objectInit ⟨#[0xb1]⟩ 1 none, .arrayClass .int, .fieldLink RX0 9 "GuardedGrammar$Reader" "waiting" "[I", .fieldLink RX0 15 "GuardedGrammar$Reader" "open" "I", .fieldLink RX0 19 "GuardedGrammar$Reader" "place" "I", .fieldLink RX0 22 "GuardedGrammar$Reader" "visits" "I", .classLink RX0 25 RX2, .initialized RX2, .instantiable RX2 2, .fieldLink RX0 28 "GuardedGrammar$Reader" "made" "LGuardedGrammar$Steps;", .fieldLink RX0 32 "GuardedGrammar$Reader" "kept" "LGuardedGrammar$Steps;", .fieldLink RX0 35 "GuardedGrammar$Reader" "terms" "LGuardedGrammar$Terms;", .fieldLink RX0 39 "GuardedGrammar$Reader" "typing" "LGuardedGrammar$Typing;", .instanceMethod yX2_init]
set_option maxRecDepth 20000 in
theorem vsX0_init_oin : ∀ w ∈ vsX0_init_o, w ∈ lw_tbl := wsL_mem _ [162, 78, 79, 108, 179, 180, 181, 182, 163, 58, 164, 183, 184, 177, 178, 166] (by decide +kernel)
def vsX0_init : List Cond := .code yX0_init cX0_init 3 none :: (vsX0_init_o ++ (wsX00 ++ (wsX20 ++ (vsX2_init ++ ([] : List Cond)))))
theorem gd_X0_init : ∀ w ∈ vsX0_init, gdW w := gd_cons rfl (gd_app (gd_all (by decide +kernel)) (gd_app (gd_ws) (gd_app (gd_ws) (gd_app (gd_X2_init) gd_nil))))
set_option maxRecDepth 20000 in
theorem in_X0_init : ∀ w ∈ vsX0_init, w ∈ lw_tbl := in_cons (List.mem_of_getElem? (i := 161) (by decide +kernel)) (in_app (vsX0_init_oin) (in_app (wsX00_in) (in_app (wsX20_in) (in_app (in_X2_init) in_nil))))
theorem mX0_init_o : ∀ w ∈ vsX0_init_o, w ∈ vsX0_init := fun w h => List.mem_cons_of_mem _ (List.mem_append_left _ h)
theorem mX0_init_wsX00 : ∀ w ∈ wsX00, w ∈ vsX0_init := fun w h => List.mem_cons_of_mem _ (List.mem_append_right _ (List.mem_append_left _ h))
theorem mX0_init_wsX20 : ∀ w ∈ wsX20, w ∈ vsX0_init := fun w h => List.mem_cons_of_mem _ (List.mem_append_right _ (List.mem_append_right _ (List.mem_append_left _ h)))
theorem gX0_init_X2_init_27 : GoodIn vsX0_init vsX2_init := fun w h => ⟨List.mem_cons_of_mem _ (List.mem_append_right _ (List.mem_append_right _ (List.mem_append_right _ (List.mem_append_left _ h)))), gd_X2_init w h⟩
def vsX0_keepSteps_o : List Cond := [.fieldLink RX0 32 "GuardedGrammar$Reader" "kept" "LGuardedGrammar$Steps;", .fieldLink RX0 28 "GuardedGrammar$Reader" "made" "LGuardedGrammar$Steps;"]
set_option maxRecDepth 20000 in
theorem vsX0_keepSteps_oin : ∀ w ∈ vsX0_keepSteps_o, w ∈ lw_tbl := wsL_mem _ [184, 183] (by decide +kernel)
def vsX0_keepSteps : List Cond := .code yX0_keepSteps cX0_keepSteps 2 none :: (vsX0_keepSteps_o ++ (wsX00 ++ ([] : List Cond)))
theorem gd_X0_keepSteps : ∀ w ∈ vsX0_keepSteps, gdW w := gd_cons rfl (gd_app (gd_all (by decide +kernel)) (gd_app (gd_ws) gd_nil))
set_option maxRecDepth 20000 in
theorem in_X0_keepSteps : ∀ w ∈ vsX0_keepSteps, w ∈ lw_tbl := in_cons (List.mem_of_getElem? (i := 685) (by decide +kernel)) (in_app (vsX0_keepSteps_oin) (in_app (wsX00_in) in_nil))
theorem mX0_keepSteps_o : ∀ w ∈ vsX0_keepSteps_o, w ∈ vsX0_keepSteps := fun w h => List.mem_cons_of_mem _ (List.mem_append_left _ h)
theorem mX0_keepSteps_wsX00 : ∀ w ∈ wsX00, w ∈ vsX0_keepSteps := fun w h => List.mem_cons_of_mem _ (List.mem_append_right _ (List.mem_append_left _ h))
def vsX0_kept_o : List Cond := [.fieldLink RX0 32 "GuardedGrammar$Reader" "kept" "LGuardedGrammar$Steps;"]
set_option maxRecDepth 20000 in
theorem vsX0_kept_oin : ∀ w ∈ vsX0_kept_o, w ∈ lw_tbl := wsL_mem _ [184] (by decide +kernel)
def vsX0_kept : List Cond := .code yX0_kept cX0_kept 1 (some (.object "GuardedGrammar$Steps")) :: (vsX0_kept_o ++ (wsX00 ++ ([] : List Cond)))
theorem gd_X0_kept : ∀ w ∈ vsX0_kept, gdW w := gd_cons rfl (gd_app (gd_all (by decide +kernel)) (gd_app (gd_ws) gd_nil))
set_option maxRecDepth 20000 in
theorem in_X0_kept : ∀ w ∈ vsX0_kept, w ∈ lw_tbl := in_cons (List.mem_of_getElem? (i := 331) (by decide +kernel)) (in_app (vsX0_kept_oin) (in_app (wsX00_in) in_nil))
theorem mX0_kept_o : ∀ w ∈ vsX0_kept_o, w ∈ vsX0_kept := fun w h => List.mem_cons_of_mem _ (List.mem_append_left _ h)
theorem mX0_kept_wsX00 : ∀ w ∈ wsX00, w ∈ vsX0_kept := fun w h => List.mem_cons_of_mem _ (List.mem_append_right _ (List.mem_append_left _ h))
def vsX0_place_o : List Cond := [.fieldLink RX0 19 "GuardedGrammar$Reader" "place" "I"]
set_option maxRecDepth 20000 in
theorem vsX0_place_oin : ∀ w ∈ vsX0_place_o, w ∈ lw_tbl := wsL_mem _ [181] (by decide +kernel)
def vsX0_place : List Cond := .code yX0_place cX0_place 1 (some .int) :: (vsX0_place_o ++ (wsX00 ++ ([] : List Cond)))
theorem gd_X0_place : ∀ w ∈ vsX0_place, gdW w := gd_cons rfl (gd_app (gd_all (by decide +kernel)) (gd_app (gd_ws) gd_nil))
set_option maxRecDepth 20000 in
theorem in_X0_place : ∀ w ∈ vsX0_place, w ∈ lw_tbl := in_cons (List.mem_of_getElem? (i := 681) (by decide +kernel)) (in_app (vsX0_place_oin) (in_app (wsX00_in) in_nil))
theorem mX0_place_o : ∀ w ∈ vsX0_place_o, w ∈ vsX0_place := fun w h => List.mem_cons_of_mem _ (List.mem_append_left _ h)
theorem mX0_place_wsX00 : ∀ w ∈ wsX00, w ∈ vsX0_place := fun w h => List.mem_cons_of_mem _ (List.mem_append_right _ (List.mem_append_left _ h))
def vsX0_readLetter_o : List Cond := [.fieldLink RX0 19 "GuardedGrammar$Reader" "place" "I"]
set_option maxRecDepth 20000 in
theorem vsX0_readLetter_oin : ∀ w ∈ vsX0_readLetter_o, w ∈ lw_tbl := wsL_mem _ [181] (by decide +kernel)
def vsX0_readLetter : List Cond := .code yX0_readLetter cX0_readLetter 3 (some .boolean) :: (vsX0_readLetter_o ++ (wsX00 ++ (wsV RX0 55 RX6 yX6_size vsX6_size ++ (wsV RX0 87 RX6 yX6_at vsX6_at ++ ([] : List Cond)))))
theorem gd_X0_readLetter : ∀ w ∈ vsX0_readLetter, gdW w := gd_cons rfl (gd_app (gd_all (by decide +kernel)) (gd_app (gd_ws) (gd_app (gd_V gd_X6_size) (gd_app (gd_V gd_X6_at) gd_nil))))
set_option maxRecDepth 20000 in
theorem in_X0_readLetter : ∀ w ∈ vsX0_readLetter, w ∈ lw_tbl := in_cons (List.mem_of_getElem? (i := 656) (by decide +kernel)) (in_app (vsX0_readLetter_oin) (in_app (wsX00_in) (in_app (in_app (wsL_mem _ [657, 309, 310, 56] (by decide +kernel)) in_X6_size) (in_app (in_app (wsL_mem _ [658, 624, 625, 56] (by decide +kernel)) in_X6_at) in_nil))))
theorem mX0_readLetter_o : ∀ w ∈ vsX0_readLetter_o, w ∈ vsX0_readLetter := fun w h => List.mem_cons_of_mem _ (List.mem_append_left _ h)
theorem mX0_readLetter_wsX00 : ∀ w ∈ wsX00, w ∈ vsX0_readLetter := fun w h => List.mem_cons_of_mem _ (List.mem_append_right _ (List.mem_append_left _ h))
theorem gX0_readLetter_X6_size : GoodIn vsX0_readLetter (wsV RX0 55 RX6 yX6_size vsX6_size) := fun w h => ⟨List.mem_cons_of_mem _ (List.mem_append_right _ (List.mem_append_right _ (List.mem_append_left _ h))), gd_V gd_X6_size w h⟩
theorem gX0_readLetter_X6_at : GoodIn vsX0_readLetter (wsV RX0 87 RX6 yX6_at vsX6_at) := fun w h => ⟨List.mem_cons_of_mem _ (List.mem_append_right _ (List.mem_append_right _ (List.mem_append_right _ (List.mem_append_left _ h)))), gd_V gd_X6_at w h⟩
def vsX2_forgetAll_o : List Cond := [.fieldLink RX2 15 "GuardedGrammar$Steps" "size" "I"]
set_option maxRecDepth 20000 in
theorem vsX2_forgetAll_oin : ∀ w ∈ vsX2_forgetAll_o, w ∈ lw_tbl := wsL_mem _ [170] (by decide +kernel)
def vsX2_forgetAll : List Cond := .code yX2_forgetAll cX2_forgetAll 1 none :: (vsX2_forgetAll_o ++ (wsX20 ++ ([] : List Cond)))
theorem gd_X2_forgetAll : ∀ w ∈ vsX2_forgetAll, gdW w := gd_cons rfl (gd_app (gd_all (by decide +kernel)) (gd_app (gd_ws) gd_nil))
set_option maxRecDepth 20000 in
theorem in_X2_forgetAll : ∀ w ∈ vsX2_forgetAll, w ∈ lw_tbl := in_cons (List.mem_of_getElem? (i := 641) (by decide +kernel)) (in_app (vsX2_forgetAll_oin) (in_app (wsX20_in) in_nil))
theorem mX2_forgetAll_o : ∀ w ∈ vsX2_forgetAll_o, w ∈ vsX2_forgetAll := fun w h => List.mem_cons_of_mem _ (List.mem_append_left _ h)
theorem mX2_forgetAll_wsX20 : ∀ w ∈ wsX20, w ∈ vsX2_forgetAll := fun w h => List.mem_cons_of_mem _ (List.mem_append_right _ (List.mem_append_left _ h))
def vsX4_kind_o : List Cond := [.fieldLink RX4 9 "GuardedGrammar$Terms" "kinds" "[I"]
set_option maxRecDepth 20000 in
theorem vsX4_kind_oin : ∀ w ∈ vsX4_kind_o, w ∈ lw_tbl := wsL_mem _ [86] (by decide +kernel)
def vsX4_kind : List Cond := .code yX4_kind cX4_kind 2 (some .int) :: (vsX4_kind_o ++ (wsX40 ++ ([] : List Cond)))
theorem gd_X4_kind : ∀ w ∈ vsX4_kind, gdW w := gd_cons rfl (gd_app (gd_all (by decide +kernel)) (gd_app (gd_ws) gd_nil))
set_option maxRecDepth 20000 in
theorem in_X4_kind : ∀ w ∈ vsX4_kind, w ∈ lw_tbl := in_cons (List.mem_of_getElem? (i := 548) (by decide +kernel)) (in_app (vsX4_kind_oin) (in_app (wsX40_in) in_nil))
theorem mX4_kind_o : ∀ w ∈ vsX4_kind_o, w ∈ vsX4_kind := fun w h => List.mem_cons_of_mem _ (List.mem_append_left _ h)
theorem mX4_kind_wsX40 : ∀ w ∈ wsX40, w ∈ vsX4_kind := fun w h => List.mem_cons_of_mem _ (List.mem_append_right _ (List.mem_append_left _ h))
def vsX4_value_o : List Cond := [.fieldLink RX4 15 "GuardedGrammar$Terms" "values" "[I"]
set_option maxRecDepth 20000 in
theorem vsX4_value_oin : ∀ w ∈ vsX4_value_o, w ∈ lw_tbl := wsL_mem _ [87] (by decide +kernel)
def vsX4_value : List Cond := .code yX4_value cX4_value 2 (some .int) :: (vsX4_value_o ++ (wsX40 ++ ([] : List Cond)))
theorem gd_X4_value : ∀ w ∈ vsX4_value, gdW w := gd_cons rfl (gd_app (gd_all (by decide +kernel)) (gd_app (gd_ws) gd_nil))
set_option maxRecDepth 20000 in
theorem in_X4_value : ∀ w ∈ vsX4_value, w ∈ lw_tbl := in_cons (List.mem_of_getElem? (i := 556) (by decide +kernel)) (in_app (vsX4_value_oin) (in_app (wsX40_in) in_nil))
theorem mX4_value_o : ∀ w ∈ vsX4_value_o, w ∈ vsX4_value := fun w h => List.mem_cons_of_mem _ (List.mem_append_left _ h)
theorem mX4_value_wsX40 : ∀ w ∈ wsX40, w ∈ vsX4_value := fun w h => List.mem_cons_of_mem _ (List.mem_append_right _ (List.mem_append_left _ h))
def vsX5_binder_o : List Cond := [.fieldLink RX5 18 "GuardedGrammar$Typing" "binders" "[I"]
set_option maxRecDepth 20000 in
theorem vsX5_binder_oin : ∀ w ∈ vsX5_binder_o, w ∈ lw_tbl := wsL_mem _ [118] (by decide +kernel)
def vsX5_binder : List Cond := .code yX5_binder cX5_binder 2 (some .int) :: (vsX5_binder_o ++ (wsX50 ++ ([] : List Cond)))
theorem gd_X5_binder : ∀ w ∈ vsX5_binder, gdW w := gd_cons rfl (gd_app (gd_all (by decide +kernel)) (gd_app (gd_ws) gd_nil))
set_option maxRecDepth 20000 in
theorem in_X5_binder : ∀ w ∈ vsX5_binder, w ∈ lw_tbl := in_cons (List.mem_of_getElem? (i := 677) (by decide +kernel)) (in_app (vsX5_binder_oin) (in_app (wsX50_in) in_nil))
theorem mX5_binder_o : ∀ w ∈ vsX5_binder_o, w ∈ vsX5_binder := fun w h => List.mem_cons_of_mem _ (List.mem_append_left _ h)
theorem mX5_binder_wsX50 : ∀ w ∈ wsX50, w ∈ vsX5_binder := fun w h => List.mem_cons_of_mem _ (List.mem_append_right _ (List.mem_append_left _ h))
def vsX0_visit_o : List Cond := [.fieldLink RX0 35 "GuardedGrammar$Reader" "terms" "LGuardedGrammar$Terms;", .fieldLink RX0 39 "GuardedGrammar$Reader" "typing" "LGuardedGrammar$Typing;"]
set_option maxRecDepth 20000 in
theorem vsX0_visit_oin : ∀ w ∈ vsX0_visit_o, w ∈ lw_tbl := wsL_mem _ [177, 178] (by decide +kernel)
def vsX0_visit : List Cond := .code yX0_visit cX0_visit 3 (some .boolean) :: (vsX0_visit_o ++ (wsX00 ++ (wsV RX0 61 RX4 yX4_kind vsX4_kind ++ (wsV RX0 67 RX4 yX4_value vsX4_value ++ (wsV RX0 70 RX0 yX0_readLetter vsX0_readLetter ++ (wsV RX0 73 RX4 yX4_right vsX4_right ++ (wsV RX0 46 RX0 yX0_await vsX0_await ++ (wsV RX0 76 RX4 yX4_left vsX4_left ++ (wsV RX0 79 RX0 yX0_choose vsX0_choose ++ (wsV RX0 82 RX5 yX5_binder vsX5_binder ++ ([] : List Cond)))))))))))
theorem gd_X0_visit : ∀ w ∈ vsX0_visit, gdW w := gd_cons rfl (gd_app (gd_all (by decide +kernel)) (gd_app (gd_ws) (gd_app (gd_V gd_X4_kind) (gd_app (gd_V gd_X4_value) (gd_app (gd_V gd_X0_readLetter) (gd_app (gd_V gd_X4_right) (gd_app (gd_V gd_X0_await) (gd_app (gd_V gd_X4_left) (gd_app (gd_V gd_X0_choose) (gd_app (gd_V gd_X5_binder) gd_nil))))))))))
set_option maxRecDepth 20000 in
theorem in_X0_visit : ∀ w ∈ vsX0_visit, w ∈ lw_tbl := in_cons (List.mem_of_getElem? (i := 650) (by decide +kernel)) (in_app (vsX0_visit_oin) (in_app (wsX00_in) (in_app (in_app (wsL_mem _ [651, 546, 547, 54] (by decide +kernel)) in_X4_kind) (in_app (in_app (wsL_mem _ [652, 554, 555, 54] (by decide +kernel)) in_X4_value) (in_app (in_app (wsL_mem _ [653, 655, 18, 57] (by decide +kernel)) in_X0_readLetter) (in_app (in_app (wsL_mem _ [659, 538, 539, 54] (by decide +kernel)) in_X4_right) (in_app (in_app (wsL_mem _ [642, 644, 16, 57] (by decide +kernel)) in_X0_await) (in_app (in_app (wsL_mem _ [660, 534, 535, 54] (by decide +kernel)) in_X4_left) (in_app (in_app (wsL_mem _ [661, 663, 19, 57] (by decide +kernel)) in_X0_choose) (in_app (in_app (wsL_mem _ [674, 675, 676, 55] (by decide +kernel)) in_X5_binder) in_nil))))))))))
theorem mX0_visit_o : ∀ w ∈ vsX0_visit_o, w ∈ vsX0_visit := fun w h => List.mem_cons_of_mem _ (List.mem_append_left _ h)
theorem mX0_visit_wsX00 : ∀ w ∈ wsX00, w ∈ vsX0_visit := fun w h => List.mem_cons_of_mem _ (List.mem_append_right _ (List.mem_append_left _ h))
theorem gX0_visit_X4_kind : GoodIn vsX0_visit (wsV RX0 61 RX4 yX4_kind vsX4_kind) := fun w h => ⟨List.mem_cons_of_mem _ (List.mem_append_right _ (List.mem_append_right _ (List.mem_append_left _ h))), gd_V gd_X4_kind w h⟩
theorem gX0_visit_X4_value : GoodIn vsX0_visit (wsV RX0 67 RX4 yX4_value vsX4_value) := fun w h => ⟨List.mem_cons_of_mem _ (List.mem_append_right _ (List.mem_append_right _ (List.mem_append_right _ (List.mem_append_left _ h)))), gd_V gd_X4_value w h⟩
theorem gX0_visit_X0_readLetter : GoodIn vsX0_visit (wsV RX0 70 RX0 yX0_readLetter vsX0_readLetter) := fun w h => ⟨List.mem_cons_of_mem _ (List.mem_append_right _ (List.mem_append_right _ (List.mem_append_right _ (List.mem_append_right _ (List.mem_append_left _ h))))), gd_V gd_X0_readLetter w h⟩
theorem gX0_visit_X4_right : GoodIn vsX0_visit (wsV RX0 73 RX4 yX4_right vsX4_right) := fun w h => ⟨List.mem_cons_of_mem _ (List.mem_append_right _ (List.mem_append_right _ (List.mem_append_right _ (List.mem_append_right _ (List.mem_append_right _ (List.mem_append_left _ h)))))), gd_V gd_X4_right w h⟩
theorem gX0_visit_X0_await : GoodIn vsX0_visit (wsV RX0 46 RX0 yX0_await vsX0_await) := fun w h => ⟨List.mem_cons_of_mem _ (List.mem_append_right _ (List.mem_append_right _ (List.mem_append_right _ (List.mem_append_right _ (List.mem_append_right _ (List.mem_append_right _ (List.mem_append_left _ h))))))), gd_V gd_X0_await w h⟩
theorem gX0_visit_X4_left : GoodIn vsX0_visit (wsV RX0 76 RX4 yX4_left vsX4_left) := fun w h => ⟨List.mem_cons_of_mem _ (List.mem_append_right _ (List.mem_append_right _ (List.mem_append_right _ (List.mem_append_right _ (List.mem_append_right _ (List.mem_append_right _ (List.mem_append_right _ (List.mem_append_left _ h)))))))), gd_V gd_X4_left w h⟩
theorem gX0_visit_X0_choose : GoodIn vsX0_visit (wsV RX0 79 RX0 yX0_choose vsX0_choose) := fun w h => ⟨List.mem_cons_of_mem _ (List.mem_append_right _ (List.mem_append_right _ (List.mem_append_right _ (List.mem_append_right _ (List.mem_append_right _ (List.mem_append_right _ (List.mem_append_right _ (List.mem_append_right _ (List.mem_append_left _ h))))))))), gd_V gd_X0_choose w h⟩
theorem gX0_visit_X5_binder : GoodIn vsX0_visit (wsV RX0 82 RX5 yX5_binder vsX5_binder) := fun w h => ⟨List.mem_cons_of_mem _ (List.mem_append_right _ (List.mem_append_right _ (List.mem_append_right _ (List.mem_append_right _ (List.mem_append_right _ (List.mem_append_right _ (List.mem_append_right _ (List.mem_append_right _ (List.mem_append_right _ (List.mem_append_left _ h)))))))))), gd_V gd_X5_binder w h⟩
def vsX0_reads_o : List Cond := [.fieldLink RX0 28 "GuardedGrammar$Reader" "made" "LGuardedGrammar$Steps;", .fieldLink RX0 19 "GuardedGrammar$Reader" "place" "I", .fieldLink RX0 15 "GuardedGrammar$Reader" "open" "I", .fieldLink RX0 22 "GuardedGrammar$Reader" "visits" "I", .constant RX0 50 (1000000), .fieldLink RX0 9 "GuardedGrammar$Reader" "waiting" "[I"]
set_option maxRecDepth 20000 in
theorem vsX0_reads_oin : ∀ w ∈ vsX0_reads_o, w ∈ lw_tbl := wsL_mem _ [183, 181, 180, 182, 646, 179] (by decide +kernel)
def vsX0_reads : List Cond := .code yX0_reads cX0_reads 3 (some .boolean) :: (vsX0_reads_o ++ (wsX00 ++ (wsV RX0 43 RX2 yX2_forgetAll vsX2_forgetAll ++ (wsV RX0 46 RX0 yX0_await vsX0_await ++ (wsV RX0 51 RX0 yX0_visit vsX0_visit ++ (wsV RX0 55 RX6 yX6_size vsX6_size ++ ([] : List Cond)))))))
theorem gd_X0_reads : ∀ w ∈ vsX0_reads, gdW w := gd_cons rfl (gd_app (gd_all (by decide +kernel)) (gd_app (gd_ws) (gd_app (gd_V gd_X2_forgetAll) (gd_app (gd_V gd_X0_await) (gd_app (gd_V gd_X0_visit) (gd_app (gd_V gd_X6_size) gd_nil))))))
set_option maxRecDepth 20000 in
theorem in_X0_reads : ∀ w ∈ vsX0_reads, w ∈ lw_tbl := in_cons (List.mem_of_getElem? (i := 637) (by decide +kernel)) (in_app (vsX0_reads_oin) (in_app (wsX00_in) (in_app (in_app (wsL_mem _ [638, 639, 640, 58] (by decide +kernel)) in_X2_forgetAll) (in_app (in_app (wsL_mem _ [642, 644, 16, 57] (by decide +kernel)) in_X0_await) (in_app (in_app (wsL_mem _ [647, 649, 17, 57] (by decide +kernel)) in_X0_visit) (in_app (in_app (wsL_mem _ [657, 309, 310, 56] (by decide +kernel)) in_X6_size) in_nil))))))
theorem mX0_reads_o : ∀ w ∈ vsX0_reads_o, w ∈ vsX0_reads := fun w h => List.mem_cons_of_mem _ (List.mem_append_left _ h)
theorem mX0_reads_wsX00 : ∀ w ∈ wsX00, w ∈ vsX0_reads := fun w h => List.mem_cons_of_mem _ (List.mem_append_right _ (List.mem_append_left _ h))
theorem gX0_reads_X2_forgetAll : GoodIn vsX0_reads (wsV RX0 43 RX2 yX2_forgetAll vsX2_forgetAll) := fun w h => ⟨List.mem_cons_of_mem _ (List.mem_append_right _ (List.mem_append_right _ (List.mem_append_left _ h))), gd_V gd_X2_forgetAll w h⟩
theorem gX0_reads_X0_await : GoodIn vsX0_reads (wsV RX0 46 RX0 yX0_await vsX0_await) := fun w h => ⟨List.mem_cons_of_mem _ (List.mem_append_right _ (List.mem_append_right _ (List.mem_append_right _ (List.mem_append_left _ h)))), gd_V gd_X0_await w h⟩
theorem gX0_reads_X0_visit : GoodIn vsX0_reads (wsV RX0 51 RX0 yX0_visit vsX0_visit) := fun w h => ⟨List.mem_cons_of_mem _ (List.mem_append_right _ (List.mem_append_right _ (List.mem_append_right _ (List.mem_append_right _ (List.mem_append_left _ h))))), gd_V gd_X0_visit w h⟩
theorem gX0_reads_X6_size : GoodIn vsX0_reads (wsV RX0 55 RX6 yX6_size vsX6_size) := fun w h => ⟨List.mem_cons_of_mem _ (List.mem_append_right _ (List.mem_append_right _ (List.mem_append_right _ (List.mem_append_right _ (List.mem_append_right _ (List.mem_append_left _ h)))))), gd_V gd_X6_size w h⟩
def vsX0_visits_o : List Cond := [.fieldLink RX0 22 "GuardedGrammar$Reader" "visits" "I"]
set_option maxRecDepth 20000 in
theorem vsX0_visits_oin : ∀ w ∈ vsX0_visits_o, w ∈ lw_tbl := wsL_mem _ [182] (by decide +kernel)
def vsX0_visits : List Cond := .code yX0_visits cX0_visits 1 (some .int) :: (vsX0_visits_o ++ (wsX00 ++ ([] : List Cond)))
theorem gd_X0_visits : ∀ w ∈ vsX0_visits, gdW w := gd_cons rfl (gd_app (gd_all (by decide +kernel)) (gd_app (gd_ws) gd_nil))
set_option maxRecDepth 20000 in
theorem in_X0_visits : ∀ w ∈ vsX0_visits, w ∈ lw_tbl := in_cons (List.mem_of_getElem? (i := 689) (by decide +kernel)) (in_app (vsX0_visits_oin) (in_app (wsX00_in) in_nil))
theorem mX0_visits_o : ∀ w ∈ vsX0_visits_o, w ∈ vsX0_visits := fun w h => List.mem_cons_of_mem _ (List.mem_append_left _ h)
theorem mX0_visits_wsX00 : ∀ w ∈ wsX00, w ∈ vsX0_visits := fun w h => List.mem_cons_of_mem _ (List.mem_append_right _ (List.mem_append_left _ h))
def vsX1_below_o : List Cond := [.fieldLink RX1 32 "GuardedGrammar$Speller" "terms" "LGuardedGrammar$Terms;", .fieldLink RX1 36 "GuardedGrammar$Speller" "typing" "LGuardedGrammar$Typing;"]
set_option maxRecDepth 20000 in
theorem vsX1_below_oin : ∀ w ∈ vsX1_below_o, w ∈ lw_tbl := wsL_mem _ [226, 227] (by decide +kernel)
def vsX1_below : List Cond := .code yX1_below cX1_below 3 (some .int) :: (vsX1_below_o ++ (wsX10 ++ (wsV RX1 87 RX4 yX4_kind vsX4_kind ++ (wsV RX1 99 RX5 yX5_binder vsX5_binder ++ (wsV RX1 102 RX5 yX5_side vsX5_side ++ (wsV RX1 92 RX4 yX4_right vsX4_right ++ (wsV RX1 105 RX4 yX4_left vsX4_left ++ ([] : List Cond))))))))
theorem gd_X1_below : ∀ w ∈ vsX1_below, gdW w := gd_cons rfl (gd_app (gd_all (by decide +kernel)) (gd_app (gd_ws) (gd_app (gd_V gd_X4_kind) (gd_app (gd_V gd_X5_binder) (gd_app (gd_V gd_X5_side) (gd_app (gd_V gd_X4_right) (gd_app (gd_V gd_X4_left) gd_nil)))))))
set_option maxRecDepth 20000 in
theorem in_X1_below : ∀ w ∈ vsX1_below, w ∈ lw_tbl := in_cons (List.mem_of_getElem? (i := 806) (by decide +kernel)) (in_app (vsX1_below_oin) (in_app (wsX10_in) (in_app (in_app (wsL_mem _ [801, 546, 547, 54] (by decide +kernel)) in_X4_kind) (in_app (in_app (wsL_mem _ [807, 675, 676, 55] (by decide +kernel)) in_X5_binder) (in_app (in_app (wsL_mem _ [808, 666, 667, 55] (by decide +kernel)) in_X5_side) (in_app (in_app (wsL_mem _ [802, 538, 539, 54] (by decide +kernel)) in_X4_right) (in_app (in_app (wsL_mem _ [809, 534, 535, 54] (by decide +kernel)) in_X4_left) in_nil)))))))
theorem mX1_below_o : ∀ w ∈ vsX1_below_o, w ∈ vsX1_below := fun w h => List.mem_cons_of_mem _ (List.mem_append_left _ h)
theorem mX1_below_wsX10 : ∀ w ∈ wsX10, w ∈ vsX1_below := fun w h => List.mem_cons_of_mem _ (List.mem_append_right _ (List.mem_append_left _ h))
theorem gX1_below_X4_kind : GoodIn vsX1_below (wsV RX1 87 RX4 yX4_kind vsX4_kind) := fun w h => ⟨List.mem_cons_of_mem _ (List.mem_append_right _ (List.mem_append_right _ (List.mem_append_left _ h))), gd_V gd_X4_kind w h⟩
theorem gX1_below_X5_binder : GoodIn vsX1_below (wsV RX1 99 RX5 yX5_binder vsX5_binder) := fun w h => ⟨List.mem_cons_of_mem _ (List.mem_append_right _ (List.mem_append_right _ (List.mem_append_right _ (List.mem_append_left _ h)))), gd_V gd_X5_binder w h⟩
theorem gX1_below_X5_side : GoodIn vsX1_below (wsV RX1 102 RX5 yX5_side vsX5_side) := fun w h => ⟨List.mem_cons_of_mem _ (List.mem_append_right _ (List.mem_append_right _ (List.mem_append_right _ (List.mem_append_right _ (List.mem_append_left _ h))))), gd_V gd_X5_side w h⟩
theorem gX1_below_X4_right : GoodIn vsX1_below (wsV RX1 92 RX4 yX4_right vsX4_right) := fun w h => ⟨List.mem_cons_of_mem _ (List.mem_append_right _ (List.mem_append_right _ (List.mem_append_right _ (List.mem_append_right _ (List.mem_append_right _ (List.mem_append_left _ h)))))), gd_V gd_X4_right w h⟩
theorem gX1_below_X4_left : GoodIn vsX1_below (wsV RX1 105 RX4 yX4_left vsX4_left) := fun w h => ⟨List.mem_cons_of_mem _ (List.mem_append_right _ (List.mem_append_right _ (List.mem_append_right _ (List.mem_append_right _ (List.mem_append_right _ (List.mem_append_right _ (List.mem_append_left _ h))))))), gd_V gd_X4_left w h⟩
def vsX1_goDown_o : List Cond := [.fieldLink RX1 26 "GuardedGrammar$Speller" "freshSize" "I", .fieldLink RX1 32 "GuardedGrammar$Speller" "terms" "LGuardedGrammar$Terms;", .fieldLink RX1 23 "GuardedGrammar$Speller" "fresh" "[I"]
set_option maxRecDepth 20000 in
theorem vsX1_goDown_oin : ∀ w ∈ vsX1_goDown_o, w ∈ lw_tbl := wsL_mem _ [233, 226, 232] (by decide +kernel)
def vsX1_goDown : List Cond := .code yX1_goDown cX1_goDown 5 none :: (vsX1_goDown_o ++ (wsX10 ++ (wsV RX1 87 RX4 yX4_kind vsX4_kind ++ (wsV RX1 92 RX4 yX4_right vsX4_right ++ (wsV RX1 95 RX1 yX1_below vsX1_below ++ ([] : List Cond))))))
theorem gd_X1_goDown : ∀ w ∈ vsX1_goDown, gdW w := gd_cons rfl (gd_app (gd_all (by decide +kernel)) (gd_app (gd_ws) (gd_app (gd_V gd_X4_kind) (gd_app (gd_V gd_X4_right) (gd_app (gd_V gd_X1_below) gd_nil)))))
set_option maxRecDepth 20000 in
theorem in_X1_goDown : ∀ w ∈ vsX1_goDown, w ∈ lw_tbl := in_cons (List.mem_of_getElem? (i := 800) (by decide +kernel)) (in_app (vsX1_goDown_oin) (in_app (wsX10_in) (in_app (in_app (wsL_mem _ [801, 546, 547, 54] (by decide +kernel)) in_X4_kind) (in_app (in_app (wsL_mem _ [802, 538, 539, 54] (by decide +kernel)) in_X4_right) (in_app (in_app (wsL_mem _ [803, 805, 29, 60] (by decide +kernel)) in_X1_below) in_nil)))))
theorem mX1_goDown_o : ∀ w ∈ vsX1_goDown_o, w ∈ vsX1_goDown := fun w h => List.mem_cons_of_mem _ (List.mem_append_left _ h)
theorem mX1_goDown_wsX10 : ∀ w ∈ wsX10, w ∈ vsX1_goDown := fun w h => List.mem_cons_of_mem _ (List.mem_append_right _ (List.mem_append_left _ h))
theorem gX1_goDown_X4_kind : GoodIn vsX1_goDown (wsV RX1 87 RX4 yX4_kind vsX4_kind) := fun w h => ⟨List.mem_cons_of_mem _ (List.mem_append_right _ (List.mem_append_right _ (List.mem_append_left _ h))), gd_V gd_X4_kind w h⟩
theorem gX1_goDown_X4_right : GoodIn vsX1_goDown (wsV RX1 92 RX4 yX4_right vsX4_right) := fun w h => ⟨List.mem_cons_of_mem _ (List.mem_append_right _ (List.mem_append_right _ (List.mem_append_right _ (List.mem_append_left _ h)))), gd_V gd_X4_right w h⟩
theorem gX1_goDown_X1_below : GoodIn vsX1_goDown (wsV RX1 95 RX1 yX1_below vsX1_below) := fun w h => ⟨List.mem_cons_of_mem _ (List.mem_append_right _ (List.mem_append_right _ (List.mem_append_right _ (List.mem_append_right _ (List.mem_append_left _ h))))), gd_V gd_X1_below w h⟩
def vsX1_init_o : List Cond := [.methodLink RX1 3 objectInit, .instanceMethod objectInit, .code objectInit ⟨#[0xb1]⟩ 1 none, .arrayClass .int, .fieldLink RX1 9 "GuardedGrammar$Speller" "pile" "[I", .fieldLink RX1 15 "GuardedGrammar$Speller" "height" "I", .arrayClass .long, .fieldLink RX1 19 "GuardedGrammar$Speller" "ways" "[J", .fieldLink RX1 23 "GuardedGrammar$Speller" "fresh" "[I", .fieldLink RX1 26 "GuardedGrammar$Speller" "freshSize" "I", .fieldLink RX1 29 "GuardedGrammar$Speller" "ahead" "[J", .fieldLink RX1 32 "GuardedGrammar$Speller" "terms" "LGuardedGrammar$Terms;", .fieldLink RX1 36 "GuardedGrammar$Speller" "typing" "LGuardedGrammar$Typing;", .fieldLink RX1 40 "GuardedGrammar$Speller" "tally" "LGuardedGrammar$Tally;"]
set_option maxRecDepth 20000 in
theorem vsX1_init_oin : ∀ w ∈ vsX1_init_o, w ∈ lw_tbl := wsL_mem _ [225, 78, 79, 108, 229, 230, 176, 231, 232, 233, 234, 226, 227, 228] (by decide +kernel)
def vsX1_init : List Cond := .code yX1_init cX1_init 4 none :: (vsX1_init_o ++ (wsX10 ++ ([] : List Cond)))
theorem gd_X1_init : ∀ w ∈ vsX1_init, gdW w := gd_cons rfl (gd_app (gd_all (by decide +kernel)) (gd_app (gd_ws) gd_nil))
set_option maxRecDepth 20000 in
theorem in_X1_init : ∀ w ∈ vsX1_init, w ∈ lw_tbl := in_cons (List.mem_of_getElem? (i := 224) (by decide +kernel)) (in_app (vsX1_init_oin) (in_app (wsX10_in) in_nil))
theorem mX1_init_o : ∀ w ∈ vsX1_init_o, w ∈ vsX1_init := fun w h => List.mem_cons_of_mem _ (List.mem_append_left _ h)
theorem mX1_init_wsX10 : ∀ w ∈ wsX10, w ∈ vsX1_init := fun w h => List.mem_cons_of_mem _ (List.mem_append_right _ (List.mem_append_left _ h))
def vsX3_lengthen_o : List Cond := [.fieldLink RX3 11 "GuardedGrammar$Tally" "words" "[[J"]
set_option maxRecDepth 20000 in
theorem vsX3_lengthen_oin : ∀ w ∈ vsX3_lengthen_o, w ∈ lw_tbl := wsL_mem _ [212] (by decide +kernel)
def vsX3_lengthen : List Cond := .code yX3_lengthen cX3_lengthen 9 none :: (vsX3_lengthen_o ++ (wsX30 ++ ([] : List Cond)))
theorem gd_X3_lengthen : ∀ w ∈ vsX3_lengthen, gdW w := gd_cons rfl (gd_app (gd_all (by decide +kernel)) (gd_app (gd_ws) gd_nil))
set_option maxRecDepth 20000 in
theorem in_X3_lengthen : ∀ w ∈ vsX3_lengthen, w ∈ lw_tbl := in_cons (List.mem_of_getElem? (i := 786) (by decide +kernel)) (in_app (vsX3_lengthen_oin) (in_app (wsX30_in) in_nil))
theorem mX3_lengthen_o : ∀ w ∈ vsX3_lengthen_o, w ∈ vsX3_lengthen := fun w h => List.mem_cons_of_mem _ (List.mem_append_left _ h)
theorem mX3_lengthen_wsX30 : ∀ w ∈ wsX30, w ∈ vsX3_lengthen := fun w h => List.mem_cons_of_mem _ (List.mem_append_right _ (List.mem_append_left _ h))
def vsX1_pileUp_o : List Cond := [.fieldLink RX1 15 "GuardedGrammar$Speller" "height" "I", .fieldLink RX1 19 "GuardedGrammar$Speller" "ways" "[J", .methodLink RX1 108 arraycopyName, .native arraycopyName, .static arraycopyName, .initialized "java/lang/System", .fieldLink RX1 40 "GuardedGrammar$Speller" "tally" "LGuardedGrammar$Tally;", .fieldLink RX1 9 "GuardedGrammar$Speller" "pile" "[I"]
set_option maxRecDepth 20000 in
theorem vsX1_pileUp_oin : ∀ w ∈ vsX1_pileUp_o, w ∈ lw_tbl := wsL_mem _ [230, 231, 780, 782, 781, 71, 228, 229] (by decide +kernel)
def vsX1_pileUp : List Cond := .code yX1_pileUp cX1_pileUp 4 none :: (vsX1_pileUp_o ++ (wsX10 ++ (wsV RX1 114 RX3 yX3_lengthen vsX3_lengthen ++ ([] : List Cond))))
theorem gd_X1_pileUp : ∀ w ∈ vsX1_pileUp, gdW w := gd_cons rfl (gd_app (gd_all (by decide +kernel)) (gd_app (gd_ws) (gd_app (gd_V gd_X3_lengthen) gd_nil)))
set_option maxRecDepth 20000 in
theorem in_X1_pileUp : ∀ w ∈ vsX1_pileUp, w ∈ lw_tbl := in_cons (List.mem_of_getElem? (i := 779) (by decide +kernel)) (in_app (vsX1_pileUp_oin) (in_app (wsX10_in) (in_app (in_app (wsL_mem _ [783, 784, 785, 59] (by decide +kernel)) in_X3_lengthen) in_nil)))
theorem mX1_pileUp_o : ∀ w ∈ vsX1_pileUp_o, w ∈ vsX1_pileUp := fun w h => List.mem_cons_of_mem _ (List.mem_append_left _ h)
theorem mX1_pileUp_wsX10 : ∀ w ∈ wsX10, w ∈ vsX1_pileUp := fun w h => List.mem_cons_of_mem _ (List.mem_append_right _ (List.mem_append_left _ h))
theorem gX1_pileUp_X3_lengthen : GoodIn vsX1_pileUp (wsV RX1 114 RX3 yX3_lengthen vsX3_lengthen) := fun w h => ⟨List.mem_cons_of_mem _ (List.mem_append_right _ (List.mem_append_right _ (List.mem_append_left _ h))), gd_V gd_X3_lengthen w h⟩
def vsX5_firstOf_o : List Cond := [.fieldLink RX5 28 "GuardedGrammar$Typing" "firsts" "[I"]
set_option maxRecDepth 20000 in
theorem vsX5_firstOf_oin : ∀ w ∈ vsX5_firstOf_o, w ∈ lw_tbl := wsL_mem _ [121] (by decide +kernel)
def vsX5_firstOf : List Cond := .code yX5_firstOf cX5_firstOf 2 (some .int) :: (vsX5_firstOf_o ++ (wsX50 ++ ([] : List Cond)))
theorem gd_X5_firstOf : ∀ w ∈ vsX5_firstOf, gdW w := gd_cons rfl (gd_app (gd_all (by decide +kernel)) (gd_app (gd_ws) gd_nil))
set_option maxRecDepth 20000 in
theorem in_X5_firstOf : ∀ w ∈ vsX5_firstOf, w ∈ lw_tbl := in_cons (List.mem_of_getElem? (i := 611) (by decide +kernel)) (in_app (vsX5_firstOf_oin) (in_app (wsX50_in) in_nil))
theorem mX5_firstOf_o : ∀ w ∈ vsX5_firstOf_o, w ∈ vsX5_firstOf := fun w h => List.mem_cons_of_mem _ (List.mem_append_left _ h)
theorem mX5_firstOf_wsX50 : ∀ w ∈ wsX50, w ∈ vsX5_firstOf := fun w h => List.mem_cons_of_mem _ (List.mem_append_right _ (List.mem_append_left _ h))
def vsX5_isNullable_o : List Cond := [.fieldLink RX5 25 "GuardedGrammar$Typing" "nullable" "[Z"]
set_option maxRecDepth 20000 in
theorem vsX5_isNullable_oin : ∀ w ∈ vsX5_isNullable_o, w ∈ lw_tbl := wsL_mem _ [120] (by decide +kernel)
def vsX5_isNullable : List Cond := .code yX5_isNullable cX5_isNullable 2 (some .boolean) :: (vsX5_isNullable_o ++ (wsX50 ++ ([] : List Cond)))
theorem gd_X5_isNullable : ∀ w ∈ vsX5_isNullable, gdW w := gd_cons rfl (gd_app (gd_all (by decide +kernel)) (gd_app (gd_ws) gd_nil))
set_option maxRecDepth 20000 in
theorem in_X5_isNullable : ∀ w ∈ vsX5_isNullable, w ∈ lw_tbl := in_cons (List.mem_of_getElem? (i := 607) (by decide +kernel)) (in_app (vsX5_isNullable_oin) (in_app (wsX50_in) in_nil))
theorem mX5_isNullable_o : ∀ w ∈ vsX5_isNullable_o, w ∈ vsX5_isNullable := fun w h => List.mem_cons_of_mem _ (List.mem_append_left _ h)
theorem mX5_isNullable_wsX50 : ∀ w ∈ wsX50, w ∈ vsX5_isNullable := fun w h => List.mem_cons_of_mem _ (List.mem_append_right _ (List.mem_append_left _ h))
def vsX1_readerOf_o : List Cond := [.fieldLink RX1 15 "GuardedGrammar$Speller" "height" "I", .fieldLink RX1 36 "GuardedGrammar$Speller" "typing" "LGuardedGrammar$Typing;", .fieldLink RX1 9 "GuardedGrammar$Speller" "pile" "[I"]
set_option maxRecDepth 20000 in
theorem vsX1_readerOf_oin : ∀ w ∈ vsX1_readerOf_o, w ∈ lw_tbl := wsL_mem _ [230, 227, 229] (by decide +kernel)
def vsX1_readerOf : List Cond := .code yX1_readerOf cX1_readerOf 3 (some .int) :: (vsX1_readerOf_o ++ (wsX10 ++ (wsV RX1 78 RX5 yX5_firstOf vsX5_firstOf ++ (wsV RX1 83 RX5 yX5_isNullable vsX5_isNullable ++ ([] : List Cond)))))
theorem gd_X1_readerOf : ∀ w ∈ vsX1_readerOf, gdW w := gd_cons rfl (gd_app (gd_all (by decide +kernel)) (gd_app (gd_ws) (gd_app (gd_V gd_X5_firstOf) (gd_app (gd_V gd_X5_isNullable) gd_nil))))
set_option maxRecDepth 20000 in
theorem in_X1_readerOf : ∀ w ∈ vsX1_readerOf, w ∈ lw_tbl := in_cons (List.mem_of_getElem? (i := 794) (by decide +kernel)) (in_app (vsX1_readerOf_oin) (in_app (wsX10_in) (in_app (in_app (wsL_mem _ [795, 609, 610, 55] (by decide +kernel)) in_X5_firstOf) (in_app (in_app (wsL_mem _ [796, 605, 606, 55] (by decide +kernel)) in_X5_isNullable) in_nil))))
theorem mX1_readerOf_o : ∀ w ∈ vsX1_readerOf_o, w ∈ vsX1_readerOf := fun w h => List.mem_cons_of_mem _ (List.mem_append_left _ h)
theorem mX1_readerOf_wsX10 : ∀ w ∈ wsX10, w ∈ vsX1_readerOf := fun w h => List.mem_cons_of_mem _ (List.mem_append_right _ (List.mem_append_left _ h))
theorem gX1_readerOf_X5_firstOf : GoodIn vsX1_readerOf (wsV RX1 78 RX5 yX5_firstOf vsX5_firstOf) := fun w h => ⟨List.mem_cons_of_mem _ (List.mem_append_right _ (List.mem_append_right _ (List.mem_append_left _ h))), gd_V gd_X5_firstOf w h⟩
theorem gX1_readerOf_X5_isNullable : GoodIn vsX1_readerOf (wsV RX1 83 RX5 yX5_isNullable vsX5_isNullable) := fun w h => ⟨List.mem_cons_of_mem _ (List.mem_append_right _ (List.mem_append_right _ (List.mem_append_right _ (List.mem_append_left _ h)))), gd_V gd_X5_isNullable w h⟩
def vsX6_keep_o : List Cond := [.fieldLink RX6 15 "GuardedGrammar$Word" "size" "I"]
set_option maxRecDepth 20000 in
theorem vsX6_keep_oin : ∀ w ∈ vsX6_keep_o, w ∈ lw_tbl := wsL_mem _ [151] (by decide +kernel)
def vsX6_keep : List Cond := .code yX6_keep cX6_keep 2 none :: (vsX6_keep_o ++ (wsX60 ++ ([] : List Cond)))
theorem gd_X6_keep : ∀ w ∈ vsX6_keep, gdW w := gd_cons rfl (gd_app (gd_all (by decide +kernel)) (gd_app (gd_ws) gd_nil))
set_option maxRecDepth 20000 in
theorem in_X6_keep : ∀ w ∈ vsX6_keep, w ∈ lw_tbl := in_cons (List.mem_of_getElem? (i := 315) (by decide +kernel)) (in_app (vsX6_keep_oin) (in_app (wsX60_in) in_nil))
theorem mX6_keep_o : ∀ w ∈ vsX6_keep_o, w ∈ vsX6_keep := fun w h => List.mem_cons_of_mem _ (List.mem_append_left _ h)
theorem mX6_keep_wsX60 : ∀ w ∈ wsX60, w ∈ vsX6_keep := fun w h => List.mem_cons_of_mem _ (List.mem_append_right _ (List.mem_append_left _ h))
def vsX1_startPile_o : List Cond := [.fieldLink RX1 19 "GuardedGrammar$Speller" "ways" "[J", .fieldLink RX1 15 "GuardedGrammar$Speller" "height" "I"]
set_option maxRecDepth 20000 in
theorem vsX1_startPile_oin : ∀ w ∈ vsX1_startPile_o, w ∈ lw_tbl := wsL_mem _ [231, 230] (by decide +kernel)
def vsX1_startPile : List Cond := .code yX1_startPile cX1_startPile 4 none :: (vsX1_startPile_o ++ (wsX10 ++ (wsV RX1 58 RX1 yX1_pileUp vsX1_pileUp ++ ([] : List Cond))))
theorem gd_X1_startPile : ∀ w ∈ vsX1_startPile, gdW w := gd_cons rfl (gd_app (gd_all (by decide +kernel)) (gd_app (gd_ws) (gd_app (gd_V gd_X1_pileUp) gd_nil)))
set_option maxRecDepth 20000 in
theorem in_X1_startPile : ∀ w ∈ vsX1_startPile, w ∈ lw_tbl := in_cons (List.mem_of_getElem? (i := 775) (by decide +kernel)) (in_app (vsX1_startPile_oin) (in_app (wsX10_in) (in_app (in_app (wsL_mem _ [776, 778, 25, 60] (by decide +kernel)) in_X1_pileUp) in_nil)))
theorem mX1_startPile_o : ∀ w ∈ vsX1_startPile_o, w ∈ vsX1_startPile := fun w h => List.mem_cons_of_mem _ (List.mem_append_left _ h)
theorem mX1_startPile_wsX10 : ∀ w ∈ wsX10, w ∈ vsX1_startPile := fun w h => List.mem_cons_of_mem _ (List.mem_append_right _ (List.mem_append_left _ h))
theorem gX1_startPile_X1_pileUp : GoodIn vsX1_startPile (wsV RX1 58 RX1 yX1_pileUp vsX1_pileUp) := fun w h => ⟨List.mem_cons_of_mem _ (List.mem_append_right _ (List.mem_append_right _ (List.mem_append_left _ h))), gd_V gd_X1_pileUp w h⟩
def vsX1_wordsAhead_o : List Cond := [.fieldLink RX1 19 "GuardedGrammar$Speller" "ways" "[J", .fieldLink RX1 29 "GuardedGrammar$Speller" "ahead" "[J", .methodLink RX1 108 arraycopyName, .native arraycopyName, .static arraycopyName, .initialized "java/lang/System", .fieldLink RX1 26 "GuardedGrammar$Speller" "freshSize" "I", .fieldLink RX1 40 "GuardedGrammar$Speller" "tally" "LGuardedGrammar$Tally;", .fieldLink RX1 23 "GuardedGrammar$Speller" "fresh" "[I"]
set_option maxRecDepth 20000 in
theorem vsX1_wordsAhead_oin : ∀ w ∈ vsX1_wordsAhead_o, w ∈ lw_tbl := wsL_mem _ [231, 234, 780, 782, 781, 71, 233, 228, 232] (by decide +kernel)
def vsX1_wordsAhead : List Cond := .code yX1_wordsAhead cX1_wordsAhead 4 (some .long) :: (vsX1_wordsAhead_o ++ (wsX10 ++ (wsV RX1 114 RX3 yX3_lengthen vsX3_lengthen ++ ([] : List Cond))))
theorem gd_X1_wordsAhead : ∀ w ∈ vsX1_wordsAhead, gdW w := gd_cons rfl (gd_app (gd_all (by decide +kernel)) (gd_app (gd_ws) (gd_app (gd_V gd_X3_lengthen) gd_nil)))
set_option maxRecDepth 20000 in
theorem in_X1_wordsAhead : ∀ w ∈ vsX1_wordsAhead, w ∈ lw_tbl := in_cons (List.mem_of_getElem? (i := 813) (by decide +kernel)) (in_app (vsX1_wordsAhead_oin) (in_app (wsX10_in) (in_app (in_app (wsL_mem _ [783, 784, 785, 59] (by decide +kernel)) in_X3_lengthen) in_nil)))
theorem mX1_wordsAhead_o : ∀ w ∈ vsX1_wordsAhead_o, w ∈ vsX1_wordsAhead := fun w h => List.mem_cons_of_mem _ (List.mem_append_left _ h)
theorem mX1_wordsAhead_wsX10 : ∀ w ∈ wsX10, w ∈ vsX1_wordsAhead := fun w h => List.mem_cons_of_mem _ (List.mem_append_right _ (List.mem_append_left _ h))
theorem gX1_wordsAhead_X3_lengthen : GoodIn vsX1_wordsAhead (wsV RX1 114 RX3 yX3_lengthen vsX3_lengthen) := fun w h => ⟨List.mem_cons_of_mem _ (List.mem_append_right _ (List.mem_append_right _ (List.mem_append_left _ h))), gd_V gd_X3_lengthen w h⟩
def vsX1_takeFresh_o : List Cond := [.fieldLink RX1 15 "GuardedGrammar$Speller" "height" "I", .fieldLink RX1 26 "GuardedGrammar$Speller" "freshSize" "I", .fieldLink RX1 23 "GuardedGrammar$Speller" "fresh" "[I"]
set_option maxRecDepth 20000 in
theorem vsX1_takeFresh_oin : ∀ w ∈ vsX1_takeFresh_o, w ∈ lw_tbl := wsL_mem _ [230, 233, 232] (by decide +kernel)
def vsX1_takeFresh : List Cond := .code yX1_takeFresh cX1_takeFresh 4 none :: (vsX1_takeFresh_o ++ (wsX10 ++ (wsV RX1 58 RX1 yX1_pileUp vsX1_pileUp ++ ([] : List Cond))))
theorem gd_X1_takeFresh : ∀ w ∈ vsX1_takeFresh, gdW w := gd_cons rfl (gd_app (gd_all (by decide +kernel)) (gd_app (gd_ws) (gd_app (gd_V gd_X1_pileUp) gd_nil)))
set_option maxRecDepth 20000 in
theorem in_X1_takeFresh : ∀ w ∈ vsX1_takeFresh, w ∈ lw_tbl := in_cons (List.mem_of_getElem? (i := 817) (by decide +kernel)) (in_app (vsX1_takeFresh_oin) (in_app (wsX10_in) (in_app (in_app (wsL_mem _ [776, 778, 25, 60] (by decide +kernel)) in_X1_pileUp) in_nil)))
theorem mX1_takeFresh_o : ∀ w ∈ vsX1_takeFresh_o, w ∈ vsX1_takeFresh := fun w h => List.mem_cons_of_mem _ (List.mem_append_left _ h)
theorem mX1_takeFresh_wsX10 : ∀ w ∈ wsX10, w ∈ vsX1_takeFresh := fun w h => List.mem_cons_of_mem _ (List.mem_append_right _ (List.mem_append_left _ h))
theorem gX1_takeFresh_X1_pileUp : GoodIn vsX1_takeFresh (wsV RX1 58 RX1 yX1_pileUp vsX1_pileUp) := fun w h => ⟨List.mem_cons_of_mem _ (List.mem_append_right _ (List.mem_append_right _ (List.mem_append_left _ h))), gd_V gd_X1_pileUp w h⟩
def vsX6_add_o : List Cond := [.fieldLink RX6 9 "GuardedGrammar$Word" "letters" "[I", .fieldLink RX6 15 "GuardedGrammar$Word" "size" "I"]
set_option maxRecDepth 20000 in
theorem vsX6_add_oin : ∀ w ∈ vsX6_add_o, w ∈ lw_tbl := wsL_mem _ [150, 151] (by decide +kernel)
def vsX6_add : List Cond := .code yX6_add cX6_add 2 none :: (vsX6_add_o ++ (wsX60 ++ ([] : List Cond)))
theorem gd_X6_add : ∀ w ∈ vsX6_add, gdW w := gd_cons rfl (gd_app (gd_all (by decide +kernel)) (gd_app (gd_ws) gd_nil))
set_option maxRecDepth 20000 in
theorem in_X6_add : ∀ w ∈ vsX6_add, w ∈ lw_tbl := in_cons (List.mem_of_getElem? (i := 303) (by decide +kernel)) (in_app (vsX6_add_oin) (in_app (wsX60_in) in_nil))
theorem mX6_add_o : ∀ w ∈ vsX6_add_o, w ∈ vsX6_add := fun w h => List.mem_cons_of_mem _ (List.mem_append_left _ h)
theorem mX6_add_wsX60 : ∀ w ∈ wsX60, w ∈ vsX6_add := fun w h => List.mem_cons_of_mem _ (List.mem_append_right _ (List.mem_append_left _ h))
def vsX1_spellNext_o : List Cond := [.fieldLink RX1 9 "GuardedGrammar$Speller" "pile" "[I"]
set_option maxRecDepth 20000 in
theorem vsX1_spellNext_oin : ∀ w ∈ vsX1_spellNext_o, w ∈ lw_tbl := wsL_mem _ [229] (by decide +kernel)
def vsX1_spellNext : List Cond := .code yX1_spellNext cX1_spellNext 11 (some .long) :: (vsX1_spellNext_o ++ (wsX10 ++ (wsV RX1 61 RX1 yX1_readerOf vsX1_readerOf ++ (wsV RX1 65 RX1 yX1_goDown vsX1_goDown ++ (wsV RX1 68 RX1 yX1_wordsAhead vsX1_wordsAhead ++ (wsV RX1 72 RX1 yX1_takeFresh vsX1_takeFresh ++ (wsV RX1 75 RX6 yX6_add vsX6_add ++ ([] : List Cond))))))))
theorem gd_X1_spellNext : ∀ w ∈ vsX1_spellNext, gdW w := gd_cons rfl (gd_app (gd_all (by decide +kernel)) (gd_app (gd_ws) (gd_app (gd_V gd_X1_readerOf) (gd_app (gd_V gd_X1_goDown) (gd_app (gd_V gd_X1_wordsAhead) (gd_app (gd_V gd_X1_takeFresh) (gd_app (gd_V gd_X6_add) gd_nil)))))))
set_option maxRecDepth 20000 in
theorem in_X1_spellNext : ∀ w ∈ vsX1_spellNext, w ∈ lw_tbl := in_cons (List.mem_of_getElem? (i := 790) (by decide +kernel)) (in_app (vsX1_spellNext_oin) (in_app (wsX10_in) (in_app (in_app (wsL_mem _ [791, 793, 27, 60] (by decide +kernel)) in_X1_readerOf) (in_app (in_app (wsL_mem _ [797, 799, 28, 60] (by decide +kernel)) in_X1_goDown) (in_app (in_app (wsL_mem _ [810, 812, 30, 60] (by decide +kernel)) in_X1_wordsAhead) (in_app (in_app (wsL_mem _ [814, 816, 31, 60] (by decide +kernel)) in_X1_takeFresh) (in_app (in_app (wsL_mem _ [818, 301, 302, 56] (by decide +kernel)) in_X6_add) in_nil)))))))
theorem mX1_spellNext_o : ∀ w ∈ vsX1_spellNext_o, w ∈ vsX1_spellNext := fun w h => List.mem_cons_of_mem _ (List.mem_append_left _ h)
theorem mX1_spellNext_wsX10 : ∀ w ∈ wsX10, w ∈ vsX1_spellNext := fun w h => List.mem_cons_of_mem _ (List.mem_append_right _ (List.mem_append_left _ h))
theorem gX1_spellNext_X1_readerOf : GoodIn vsX1_spellNext (wsV RX1 61 RX1 yX1_readerOf vsX1_readerOf) := fun w h => ⟨List.mem_cons_of_mem _ (List.mem_append_right _ (List.mem_append_right _ (List.mem_append_left _ h))), gd_V gd_X1_readerOf w h⟩
theorem gX1_spellNext_X1_goDown : GoodIn vsX1_spellNext (wsV RX1 65 RX1 yX1_goDown vsX1_goDown) := fun w h => ⟨List.mem_cons_of_mem _ (List.mem_append_right _ (List.mem_append_right _ (List.mem_append_right _ (List.mem_append_left _ h)))), gd_V gd_X1_goDown w h⟩
theorem gX1_spellNext_X1_wordsAhead : GoodIn vsX1_spellNext (wsV RX1 68 RX1 yX1_wordsAhead vsX1_wordsAhead) := fun w h => ⟨List.mem_cons_of_mem _ (List.mem_append_right _ (List.mem_append_right _ (List.mem_append_right _ (List.mem_append_right _ (List.mem_append_left _ h))))), gd_V gd_X1_wordsAhead w h⟩
theorem gX1_spellNext_X1_takeFresh : GoodIn vsX1_spellNext (wsV RX1 72 RX1 yX1_takeFresh vsX1_takeFresh) := fun w h => ⟨List.mem_cons_of_mem _ (List.mem_append_right _ (List.mem_append_right _ (List.mem_append_right _ (List.mem_append_right _ (List.mem_append_right _ (List.mem_append_left _ h)))))), gd_V gd_X1_takeFresh w h⟩
theorem gX1_spellNext_X6_add : GoodIn vsX1_spellNext (wsV RX1 75 RX6 yX6_add vsX6_add) := fun w h => ⟨List.mem_cons_of_mem _ (List.mem_append_right _ (List.mem_append_right _ (List.mem_append_right _ (List.mem_append_right _ (List.mem_append_right _ (List.mem_append_right _ (List.mem_append_left _ h))))))), gd_V gd_X6_add w h⟩
def vsX1_spell_o : List Cond := []
set_option maxRecDepth 20000 in
theorem vsX1_spell_oin : ∀ w ∈ vsX1_spell_o, w ∈ lw_tbl := wsL_mem _ [] (by decide +kernel)
def vsX1_spell : List Cond := .code yX1_spell cX1_spell 9 none :: (vsX1_spell_o ++ (wsV RX1 44 RX6 yX6_keep vsX6_keep ++ (wsV RX1 50 RX1 yX1_startPile vsX1_startPile ++ (wsV RX1 54 RX1 yX1_spellNext vsX1_spellNext ++ ([] : List Cond)))))
theorem gd_X1_spell : ∀ w ∈ vsX1_spell, gdW w := gd_cons rfl (gd_app (gd_all (by decide +kernel)) (gd_app (gd_V gd_X6_keep) (gd_app (gd_V gd_X1_startPile) (gd_app (gd_V gd_X1_spellNext) gd_nil))))
set_option maxRecDepth 20000 in
theorem in_X1_spell : ∀ w ∈ vsX1_spell, w ∈ lw_tbl := in_cons (List.mem_of_getElem? (i := 770) (by decide +kernel)) (in_app (vsX1_spell_oin) (in_app (in_app (wsL_mem _ [771, 313, 314, 56] (by decide +kernel)) in_X6_keep) (in_app (in_app (wsL_mem _ [772, 774, 24, 60] (by decide +kernel)) in_X1_startPile) (in_app (in_app (wsL_mem _ [787, 789, 26, 60] (by decide +kernel)) in_X1_spellNext) in_nil))))
theorem mX1_spell_o : ∀ w ∈ vsX1_spell_o, w ∈ vsX1_spell := fun w h => List.mem_cons_of_mem _ (List.mem_append_left _ h)
theorem gX1_spell_X6_keep : GoodIn vsX1_spell (wsV RX1 44 RX6 yX6_keep vsX6_keep) := fun w h => ⟨List.mem_cons_of_mem _ (List.mem_append_right _ (List.mem_append_left _ h)), gd_V gd_X6_keep w h⟩
theorem gX1_spell_X1_startPile : GoodIn vsX1_spell (wsV RX1 50 RX1 yX1_startPile vsX1_startPile) := fun w h => ⟨List.mem_cons_of_mem _ (List.mem_append_right _ (List.mem_append_right _ (List.mem_append_left _ h))), gd_V gd_X1_startPile w h⟩
theorem gX1_spell_X1_spellNext : GoodIn vsX1_spell (wsV RX1 54 RX1 yX1_spellNext vsX1_spellNext) := fun w h => ⟨List.mem_cons_of_mem _ (List.mem_append_right _ (List.mem_append_right _ (List.mem_append_right _ (List.mem_append_left _ h)))), gd_V gd_X1_spellNext w h⟩
def vsX2_at_o : List Cond := [.fieldLink RX2 9 "GuardedGrammar$Steps" "bits" "[J"]
set_option maxRecDepth 20000 in
theorem vsX2_at_oin : ∀ w ∈ vsX2_at_o, w ∈ lw_tbl := wsL_mem _ [169] (by decide +kernel)
def vsX2_at : List Cond := .code yX2_at cX2_at 2 (some .int) :: (vsX2_at_o ++ (wsX20 ++ ([] : List Cond)))
theorem gd_X2_at : ∀ w ∈ vsX2_at, gdW w := gd_cons rfl (gd_app (gd_all (by decide +kernel)) (gd_app (gd_ws) gd_nil))
set_option maxRecDepth 20000 in
theorem in_X2_at : ∀ w ∈ vsX2_at, w ∈ lw_tbl := in_cons (List.mem_of_getElem? (i := 700) (by decide +kernel)) (in_app (vsX2_at_oin) (in_app (wsX20_in) in_nil))
theorem mX2_at_o : ∀ w ∈ vsX2_at_o, w ∈ vsX2_at := fun w h => List.mem_cons_of_mem _ (List.mem_append_left _ h)
theorem mX2_at_wsX20 : ∀ w ∈ wsX20, w ∈ vsX2_at := fun w h => List.mem_cons_of_mem _ (List.mem_append_right _ (List.mem_append_left _ h))
def vsX2_size_o : List Cond := [.fieldLink RX2 15 "GuardedGrammar$Steps" "size" "I"]
set_option maxRecDepth 20000 in
theorem vsX2_size_oin : ∀ w ∈ vsX2_size_o, w ∈ lw_tbl := wsL_mem _ [170] (by decide +kernel)
def vsX2_size : List Cond := .code yX2_size cX2_size 1 (some .int) :: (vsX2_size_o ++ (wsX20 ++ ([] : List Cond)))
theorem gd_X2_size : ∀ w ∈ vsX2_size, gdW w := gd_cons rfl (gd_app (gd_all (by decide +kernel)) (gd_app (gd_ws) gd_nil))
set_option maxRecDepth 20000 in
theorem in_X2_size : ∀ w ∈ vsX2_size, w ∈ lw_tbl := in_cons (List.mem_of_getElem? (i := 335) (by decide +kernel)) (in_app (vsX2_size_oin) (in_app (wsX20_in) in_nil))
theorem mX2_size_o : ∀ w ∈ vsX2_size_o, w ∈ vsX2_size := fun w h => List.mem_cons_of_mem _ (List.mem_append_left _ h)
theorem mX2_size_wsX20 : ∀ w ∈ wsX20, w ∈ vsX2_size := fun w h => List.mem_cons_of_mem _ (List.mem_append_right _ (List.mem_append_left _ h))
def vsX5_size_o : List Cond := [.fieldLink RX5 34 "GuardedGrammar$Typing" "start" "I"]
set_option maxRecDepth 20000 in
theorem vsX5_size_oin : ∀ w ∈ vsX5_size_o, w ∈ lw_tbl := wsL_mem _ [123] (by decide +kernel)
def vsX5_size : List Cond := .code yX5_size cX5_size 1 (some .int) :: (vsX5_size_o ++ (wsX50 ++ ([] : List Cond)))
theorem gd_X5_size : ∀ w ∈ vsX5_size, gdW w := gd_cons rfl (gd_app (gd_all (by decide +kernel)) (gd_app (gd_ws) gd_nil))
set_option maxRecDepth 20000 in
theorem in_X5_size : ∀ w ∈ vsX5_size, w ∈ lw_tbl := in_cons (List.mem_of_getElem? (i := 723) (by decide +kernel)) (in_app (vsX5_size_oin) (in_app (wsX50_in) in_nil))
theorem mX5_size_o : ∀ w ∈ vsX5_size_o, w ∈ vsX5_size := fun w h => List.mem_cons_of_mem _ (List.mem_append_left _ h)
theorem mX5_size_wsX50 : ∀ w ∈ wsX50, w ∈ vsX5_size := fun w h => List.mem_cons_of_mem _ (List.mem_append_right _ (List.mem_append_left _ h))
def vsX5_inOrder_o : List Cond := [.fieldLink RX5 9 "GuardedGrammar$Typing" "order" "[I", .fieldLink RX5 34 "GuardedGrammar$Typing" "start" "I"]
set_option maxRecDepth 20000 in
theorem vsX5_inOrder_oin : ∀ w ∈ vsX5_inOrder_o, w ∈ lw_tbl := wsL_mem _ [116, 123] (by decide +kernel)
def vsX5_inOrder : List Cond := .code yX5_inOrder cX5_inOrder 2 (some .int) :: (vsX5_inOrder_o ++ (wsX50 ++ ([] : List Cond)))
theorem gd_X5_inOrder : ∀ w ∈ vsX5_inOrder, gdW w := gd_cons rfl (gd_app (gd_all (by decide +kernel)) (gd_app (gd_ws) gd_nil))
set_option maxRecDepth 20000 in
theorem in_X5_inOrder : ∀ w ∈ vsX5_inOrder, w ∈ lw_tbl := in_cons (List.mem_of_getElem? (i := 727) (by decide +kernel)) (in_app (vsX5_inOrder_oin) (in_app (wsX50_in) in_nil))
theorem mX5_inOrder_o : ∀ w ∈ vsX5_inOrder_o, w ∈ vsX5_inOrder := fun w h => List.mem_cons_of_mem _ (List.mem_append_left _ h)
theorem mX5_inOrder_wsX50 : ∀ w ∈ wsX50, w ∈ vsX5_inOrder := fun w h => List.mem_cons_of_mem _ (List.mem_append_right _ (List.mem_append_left _ h))
def vsX3_wordsOfPair_o : List Cond := [.fieldLink RX3 11 "GuardedGrammar$Tally" "words" "[[J"]
set_option maxRecDepth 20000 in
theorem vsX3_wordsOfPair_oin : ∀ w ∈ vsX3_wordsOfPair_o, w ∈ lw_tbl := wsL_mem _ [212] (by decide +kernel)
def vsX3_wordsOfPair : List Cond := .code yX3_wordsOfPair cX3_wordsOfPair 7 (some .long) :: (vsX3_wordsOfPair_o ++ (wsX30 ++ ([] : List Cond)))
theorem gd_X3_wordsOfPair : ∀ w ∈ vsX3_wordsOfPair, gdW w := gd_cons rfl (gd_app (gd_all (by decide +kernel)) (gd_app (gd_ws) gd_nil))
set_option maxRecDepth 20000 in
theorem in_X3_wordsOfPair : ∀ w ∈ vsX3_wordsOfPair, w ∈ lw_tbl := in_cons (List.mem_of_getElem? (i := 738) (by decide +kernel)) (in_app (vsX3_wordsOfPair_oin) (in_app (wsX30_in) in_nil))
theorem mX3_wordsOfPair_o : ∀ w ∈ vsX3_wordsOfPair_o, w ∈ vsX3_wordsOfPair := fun w h => List.mem_cons_of_mem _ (List.mem_append_left _ h)
theorem mX3_wordsOfPair_wsX30 : ∀ w ∈ wsX30, w ∈ vsX3_wordsOfPair := fun w h => List.mem_cons_of_mem _ (List.mem_append_right _ (List.mem_append_left _ h))
def vsX3_wordsByParts_o : List Cond := [.fieldLink RX3 16 "GuardedGrammar$Tally" "terms" "LGuardedGrammar$Terms;", .fieldLink RX3 11 "GuardedGrammar$Tally" "words" "[[J", .fieldLink RX3 20 "GuardedGrammar$Tally" "typing" "LGuardedGrammar$Typing;"]
set_option maxRecDepth 20000 in
theorem vsX3_wordsByParts_oin : ∀ w ∈ vsX3_wordsByParts_o, w ∈ lw_tbl := wsL_mem _ [210, 212, 211] (by decide +kernel)
def vsX3_wordsByParts : List Cond := .code yX3_wordsByParts cX3_wordsByParts 3 (some .long) :: (vsX3_wordsByParts_o ++ (wsX30 ++ (wsV RX3 42 RX4 yX4_kind vsX4_kind ++ (wsV RX3 47 RX4 yX4_left vsX4_left ++ (wsV RX3 50 RX4 yX4_right vsX4_right ++ (wsV RX3 53 RX3 yX3_wordsOfPair vsX3_wordsOfPair ++ (wsV RX3 57 RX5 yX5_binder vsX5_binder ++ ([] : List Cond))))))))
theorem gd_X3_wordsByParts : ∀ w ∈ vsX3_wordsByParts, gdW w := gd_cons rfl (gd_app (gd_all (by decide +kernel)) (gd_app (gd_ws) (gd_app (gd_V gd_X4_kind) (gd_app (gd_V gd_X4_left) (gd_app (gd_V gd_X4_right) (gd_app (gd_V gd_X3_wordsOfPair) (gd_app (gd_V gd_X5_binder) gd_nil)))))))
set_option maxRecDepth 20000 in
theorem in_X3_wordsByParts : ∀ w ∈ vsX3_wordsByParts, w ∈ lw_tbl := in_cons (List.mem_of_getElem? (i := 731) (by decide +kernel)) (in_app (vsX3_wordsByParts_oin) (in_app (wsX30_in) (in_app (in_app (wsL_mem _ [732, 546, 547, 54] (by decide +kernel)) in_X4_kind) (in_app (in_app (wsL_mem _ [733, 534, 535, 54] (by decide +kernel)) in_X4_left) (in_app (in_app (wsL_mem _ [734, 538, 539, 54] (by decide +kernel)) in_X4_right) (in_app (in_app (wsL_mem _ [735, 737, 23, 59] (by decide +kernel)) in_X3_wordsOfPair) (in_app (in_app (wsL_mem _ [739, 675, 676, 55] (by decide +kernel)) in_X5_binder) in_nil)))))))
theorem mX3_wordsByParts_o : ∀ w ∈ vsX3_wordsByParts_o, w ∈ vsX3_wordsByParts := fun w h => List.mem_cons_of_mem _ (List.mem_append_left _ h)
theorem mX3_wordsByParts_wsX30 : ∀ w ∈ wsX30, w ∈ vsX3_wordsByParts := fun w h => List.mem_cons_of_mem _ (List.mem_append_right _ (List.mem_append_left _ h))
theorem gX3_wordsByParts_X4_kind : GoodIn vsX3_wordsByParts (wsV RX3 42 RX4 yX4_kind vsX4_kind) := fun w h => ⟨List.mem_cons_of_mem _ (List.mem_append_right _ (List.mem_append_right _ (List.mem_append_left _ h))), gd_V gd_X4_kind w h⟩
theorem gX3_wordsByParts_X4_left : GoodIn vsX3_wordsByParts (wsV RX3 47 RX4 yX4_left vsX4_left) := fun w h => ⟨List.mem_cons_of_mem _ (List.mem_append_right _ (List.mem_append_right _ (List.mem_append_right _ (List.mem_append_left _ h)))), gd_V gd_X4_left w h⟩
theorem gX3_wordsByParts_X4_right : GoodIn vsX3_wordsByParts (wsV RX3 50 RX4 yX4_right vsX4_right) := fun w h => ⟨List.mem_cons_of_mem _ (List.mem_append_right _ (List.mem_append_right _ (List.mem_append_right _ (List.mem_append_right _ (List.mem_append_left _ h))))), gd_V gd_X4_right w h⟩
theorem gX3_wordsByParts_X3_wordsOfPair : GoodIn vsX3_wordsByParts (wsV RX3 53 RX3 yX3_wordsOfPair vsX3_wordsOfPair) := fun w h => ⟨List.mem_cons_of_mem _ (List.mem_append_right _ (List.mem_append_right _ (List.mem_append_right _ (List.mem_append_right _ (List.mem_append_right _ (List.mem_append_left _ h)))))), gd_V gd_X3_wordsOfPair w h⟩
theorem gX3_wordsByParts_X5_binder : GoodIn vsX3_wordsByParts (wsV RX3 57 RX5 yX5_binder vsX5_binder) := fun w h => ⟨List.mem_cons_of_mem _ (List.mem_append_right _ (List.mem_append_right _ (List.mem_append_right _ (List.mem_append_right _ (List.mem_append_right _ (List.mem_append_right _ (List.mem_append_left _ h))))))), gd_V gd_X5_binder w h⟩
def vsX3_countLength_o : List Cond := [.fieldLink RX3 20 "GuardedGrammar$Tally" "typing" "LGuardedGrammar$Typing;", .fieldLink RX3 11 "GuardedGrammar$Tally" "words" "[[J"]
set_option maxRecDepth 20000 in
theorem vsX3_countLength_oin : ∀ w ∈ vsX3_countLength_o, w ∈ lw_tbl := wsL_mem _ [211, 212] (by decide +kernel)
def vsX3_countLength : List Cond := .code yX3_countLength cX3_countLength 8 none :: (vsX3_countLength_o ++ (wsX30 ++ (wsV RX3 28 RX5 yX5_size vsX5_size ++ (wsV RX3 34 RX5 yX5_inOrder vsX5_inOrder ++ (wsV RX3 38 RX3 yX3_wordsByParts vsX3_wordsByParts ++ ([] : List Cond))))))
theorem gd_X3_countLength : ∀ w ∈ vsX3_countLength, gdW w := gd_cons rfl (gd_app (gd_all (by decide +kernel)) (gd_app (gd_ws) (gd_app (gd_V gd_X5_size) (gd_app (gd_V gd_X5_inOrder) (gd_app (gd_V gd_X3_wordsByParts) gd_nil)))))
set_option maxRecDepth 20000 in
theorem in_X3_countLength : ∀ w ∈ vsX3_countLength, w ∈ lw_tbl := in_cons (List.mem_of_getElem? (i := 719) (by decide +kernel)) (in_app (vsX3_countLength_oin) (in_app (wsX30_in) (in_app (in_app (wsL_mem _ [720, 721, 722, 55] (by decide +kernel)) in_X5_size) (in_app (in_app (wsL_mem _ [724, 725, 726, 55] (by decide +kernel)) in_X5_inOrder) (in_app (in_app (wsL_mem _ [728, 730, 22, 59] (by decide +kernel)) in_X3_wordsByParts) in_nil)))))
theorem mX3_countLength_o : ∀ w ∈ vsX3_countLength_o, w ∈ vsX3_countLength := fun w h => List.mem_cons_of_mem _ (List.mem_append_left _ h)
theorem mX3_countLength_wsX30 : ∀ w ∈ wsX30, w ∈ vsX3_countLength := fun w h => List.mem_cons_of_mem _ (List.mem_append_right _ (List.mem_append_left _ h))
theorem gX3_countLength_X5_size : GoodIn vsX3_countLength (wsV RX3 28 RX5 yX5_size vsX5_size) := fun w h => ⟨List.mem_cons_of_mem _ (List.mem_append_right _ (List.mem_append_right _ (List.mem_append_left _ h))), gd_V gd_X5_size w h⟩
theorem gX3_countLength_X5_inOrder : GoodIn vsX3_countLength (wsV RX3 34 RX5 yX5_inOrder vsX5_inOrder) := fun w h => ⟨List.mem_cons_of_mem _ (List.mem_append_right _ (List.mem_append_right _ (List.mem_append_right _ (List.mem_append_left _ h)))), gd_V gd_X5_inOrder w h⟩
theorem gX3_countLength_X3_wordsByParts : GoodIn vsX3_countLength (wsV RX3 38 RX3 yX3_wordsByParts vsX3_wordsByParts) := fun w h => ⟨List.mem_cons_of_mem _ (List.mem_append_right _ (List.mem_append_right _ (List.mem_append_right _ (List.mem_append_right _ (List.mem_append_left _ h))))), gd_V gd_X3_wordsByParts w h⟩
def vsX3_countTo_o : List Cond := []
set_option maxRecDepth 20000 in
theorem vsX3_countTo_oin : ∀ w ∈ vsX3_countTo_o, w ∈ lw_tbl := wsL_mem _ [] (by decide +kernel)
def vsX3_countTo : List Cond := .code yX3_countTo cX3_countTo 3 none :: (vsX3_countTo_o ++ (wsV RX3 24 RX3 yX3_countLength vsX3_countLength ++ ([] : List Cond)))
theorem gd_X3_countTo : ∀ w ∈ vsX3_countTo, gdW w := gd_cons rfl (gd_app (gd_all (by decide +kernel)) (gd_app (gd_V gd_X3_countLength) gd_nil))
set_option maxRecDepth 20000 in
theorem in_X3_countTo : ∀ w ∈ vsX3_countTo, w ∈ lw_tbl := in_cons (List.mem_of_getElem? (i := 715) (by decide +kernel)) (in_app (vsX3_countTo_oin) (in_app (in_app (wsL_mem _ [716, 718, 21, 59] (by decide +kernel)) in_X3_countLength) in_nil))
theorem mX3_countTo_o : ∀ w ∈ vsX3_countTo_o, w ∈ vsX3_countTo := fun w h => List.mem_cons_of_mem _ (List.mem_append_left _ h)
theorem gX3_countTo_X3_countLength : GoodIn vsX3_countTo (wsV RX3 24 RX3 yX3_countLength vsX3_countLength) := fun w h => ⟨List.mem_cons_of_mem _ (List.mem_append_right _ (List.mem_append_left _ h)), gd_V gd_X3_countLength w h⟩
def vsX3_init_o : List Cond := [.methodLink RX3 3 objectInit, .instanceMethod objectInit, .code objectInit ⟨#[0xb1]⟩ 1 none, .classLink RX3 9 "[[J", .arrayClass .long, .fieldLink RX3 11 "GuardedGrammar$Tally" "words" "[[J", .fieldLink RX3 16 "GuardedGrammar$Tally" "terms" "LGuardedGrammar$Terms;", .fieldLink RX3 20 "GuardedGrammar$Tally" "typing" "LGuardedGrammar$Typing;"]
set_option maxRecDepth 20000 in
theorem vsX3_init_oin : ∀ w ∈ vsX3_init_o, w ∈ lw_tbl := wsL_mem _ [207, 78, 79, 208, 176, 212, 210, 211] (by decide +kernel)
def vsX3_init : List Cond := .code yX3_init cX3_init 3 none :: (vsX3_init_o ++ (wsX30 ++ ([] : List Cond)))
theorem gd_X3_init : ∀ w ∈ vsX3_init, gdW w := gd_cons rfl (gd_app (gd_all (by decide +kernel)) (gd_app (gd_ws) gd_nil))
set_option maxRecDepth 20000 in
theorem in_X3_init : ∀ w ∈ vsX3_init, w ∈ lw_tbl := in_cons (List.mem_of_getElem? (i := 206) (by decide +kernel)) (in_app (vsX3_init_oin) (in_app (wsX30_in) in_nil))
theorem mX3_init_o : ∀ w ∈ vsX3_init_o, w ∈ vsX3_init := fun w h => List.mem_cons_of_mem _ (List.mem_append_left _ h)
theorem mX3_init_wsX30 : ∀ w ∈ wsX30, w ∈ vsX3_init := fun w h => List.mem_cons_of_mem _ (List.mem_append_right _ (List.mem_append_left _ h))
def vsX3_words_o : List Cond := [.fieldLink RX3 11 "GuardedGrammar$Tally" "words" "[[J"]
set_option maxRecDepth 20000 in
theorem vsX3_words_oin : ∀ w ∈ vsX3_words_o, w ∈ lw_tbl := wsL_mem _ [212] (by decide +kernel)
def vsX3_words : List Cond := .code yX3_words cX3_words 3 (some .long) :: (vsX3_words_o ++ (wsX30 ++ ([] : List Cond)))
theorem gd_X3_words : ∀ w ∈ vsX3_words, gdW w := gd_cons rfl (gd_app (gd_all (by decide +kernel)) (gd_app (gd_ws) gd_nil))
set_option maxRecDepth 20000 in
theorem in_X3_words : ∀ w ∈ vsX3_words, w ∈ lw_tbl := in_cons (List.mem_of_getElem? (i := 743) (by decide +kernel)) (in_app (vsX3_words_oin) (in_app (wsX30_in) in_nil))
theorem mX3_words_o : ∀ w ∈ vsX3_words_o, w ∈ vsX3_words := fun w h => List.mem_cons_of_mem _ (List.mem_append_left _ h)
theorem mX3_words_wsX30 : ∀ w ∈ wsX30, w ∈ vsX3_words := fun w h => List.mem_cons_of_mem _ (List.mem_append_right _ (List.mem_append_left _ h))
def vsX4_knotsIn_o : List Cond := [.fieldLink RX4 27 "GuardedGrammar$Terms" "knots" "[I"]
set_option maxRecDepth 20000 in
theorem vsX4_knotsIn_oin : ∀ w ∈ vsX4_knotsIn_o, w ∈ lw_tbl := wsL_mem _ [91] (by decide +kernel)
def vsX4_knotsIn : List Cond := .code yX4_knotsIn cX4_knotsIn 2 (some .int) :: (vsX4_knotsIn_o ++ (wsX40 ++ ([] : List Cond)))
theorem gd_X4_knotsIn : ∀ w ∈ vsX4_knotsIn, gdW w := gd_cons rfl (gd_app (gd_all (by decide +kernel)) (gd_app (gd_ws) gd_nil))
set_option maxRecDepth 20000 in
theorem in_X4_knotsIn : ∀ w ∈ vsX4_knotsIn, w ∈ lw_tbl := in_cons (List.mem_of_getElem? (i := 440) (by decide +kernel)) (in_app (vsX4_knotsIn_oin) (in_app (wsX40_in) in_nil))
theorem mX4_knotsIn_o : ∀ w ∈ vsX4_knotsIn_o, w ∈ vsX4_knotsIn := fun w h => List.mem_cons_of_mem _ (List.mem_append_left _ h)
theorem mX4_knotsIn_wsX40 : ∀ w ∈ wsX40, w ∈ vsX4_knotsIn := fun w h => List.mem_cons_of_mem _ (List.mem_append_right _ (List.mem_append_left _ h))
def vsX4_makePart_o : List Cond := [.fieldLink RX4 24 "GuardedGrammar$Terms" "wholes" "[I"]
set_option maxRecDepth 20000 in
theorem vsX4_makePart_oin : ∀ w ∈ vsX4_makePart_o, w ∈ lw_tbl := wsL_mem _ [90] (by decide +kernel)
def vsX4_makePart : List Cond := .code yX4_makePart cX4_makePart 3 none :: (vsX4_makePart_o ++ (wsX40 ++ ([] : List Cond)))
theorem gd_X4_makePart : ∀ w ∈ vsX4_makePart, gdW w := gd_cons rfl (gd_app (gd_all (by decide +kernel)) (gd_app (gd_ws) gd_nil))
set_option maxRecDepth 20000 in
theorem in_X4_makePart : ∀ w ∈ vsX4_makePart, w ∈ lw_tbl := in_cons (List.mem_of_getElem? (i := 447) (by decide +kernel)) (in_app (vsX4_makePart_oin) (in_app (wsX40_in) in_nil))
theorem mX4_makePart_o : ∀ w ∈ vsX4_makePart_o, w ∈ vsX4_makePart := fun w h => List.mem_cons_of_mem _ (List.mem_append_left _ h)
theorem mX4_makePart_wsX40 : ∀ w ∈ wsX40, w ∈ vsX4_makePart := fun w h => List.mem_cons_of_mem _ (List.mem_append_right _ (List.mem_append_left _ h))
def vsX4_add_o : List Cond := [.fieldLink RX4 30 "GuardedGrammar$Terms" "size" "I", .fieldLink RX4 9 "GuardedGrammar$Terms" "kinds" "[I", .fieldLink RX4 15 "GuardedGrammar$Terms" "values" "[I", .fieldLink RX4 18 "GuardedGrammar$Terms" "lefts" "[I", .fieldLink RX4 21 "GuardedGrammar$Terms" "rights" "[I", .fieldLink RX4 24 "GuardedGrammar$Terms" "wholes" "[I", .fieldLink RX4 27 "GuardedGrammar$Terms" "knots" "[I", .methodLink RX4 38 Lib.Math.max.name, .static Lib.Math.max.name, .initialized "java/lang/Math", .code Lib.Math.max.name Lib.Math.max.code 2 (some .int)]
set_option maxRecDepth 20000 in
theorem vsX4_add_oin : ∀ w ∈ vsX4_add_o, w ∈ lw_tbl := wsL_mem _ [92, 86, 87, 88, 89, 90, 91, 441, 442, 67, 443] (by decide +kernel)
def vsX4_add : List Cond := .code yX4_add cX4_add 6 (some .int) :: (vsX4_add_o ++ (wsX40 ++ (wsV RX4 34 RX4 yX4_knotsIn vsX4_knotsIn ++ (wsV RX4 44 RX4 yX4_makePart vsX4_makePart ++ ([] : List Cond)))))
theorem gd_X4_add : ∀ w ∈ vsX4_add, gdW w := gd_cons rfl (gd_app (gd_all (by decide +kernel)) (gd_app (gd_ws) (gd_app (gd_V gd_X4_knotsIn) (gd_app (gd_V gd_X4_makePart) gd_nil))))
set_option maxRecDepth 20000 in
theorem in_X4_add : ∀ w ∈ vsX4_add, w ∈ lw_tbl := in_cons (List.mem_of_getElem? (i := 436) (by decide +kernel)) (in_app (vsX4_add_oin) (in_app (wsX40_in) (in_app (in_app (wsL_mem _ [437, 438, 439, 54] (by decide +kernel)) in_X4_knotsIn) (in_app (in_app (wsL_mem _ [444, 446, 2, 54] (by decide +kernel)) in_X4_makePart) in_nil))))
theorem mX4_add_o : ∀ w ∈ vsX4_add_o, w ∈ vsX4_add := fun w h => List.mem_cons_of_mem _ (List.mem_append_left _ h)
theorem mX4_add_wsX40 : ∀ w ∈ wsX40, w ∈ vsX4_add := fun w h => List.mem_cons_of_mem _ (List.mem_append_right _ (List.mem_append_left _ h))
theorem gX4_add_X4_knotsIn : GoodIn vsX4_add (wsV RX4 34 RX4 yX4_knotsIn vsX4_knotsIn) := fun w h => ⟨List.mem_cons_of_mem _ (List.mem_append_right _ (List.mem_append_right _ (List.mem_append_left _ h))), gd_V gd_X4_knotsIn w h⟩
theorem gX4_add_X4_makePart : GoodIn vsX4_add (wsV RX4 44 RX4 yX4_makePart vsX4_makePart) := fun w h => ⟨List.mem_cons_of_mem _ (List.mem_append_right _ (List.mem_append_right _ (List.mem_append_right _ (List.mem_append_left _ h)))), gd_V gd_X4_makePart w h⟩
def vsX4_forgetAll_o : List Cond := [.fieldLink RX4 30 "GuardedGrammar$Terms" "size" "I"]
set_option maxRecDepth 20000 in
theorem vsX4_forgetAll_oin : ∀ w ∈ vsX4_forgetAll_o, w ∈ lw_tbl := wsL_mem _ [92] (by decide +kernel)
def vsX4_forgetAll : List Cond := .code yX4_forgetAll cX4_forgetAll 1 none :: (vsX4_forgetAll_o ++ (wsX40 ++ ([] : List Cond)))
theorem gd_X4_forgetAll : ∀ w ∈ vsX4_forgetAll, gdW w := gd_cons rfl (gd_app (gd_all (by decide +kernel)) (gd_app (gd_ws) gd_nil))
set_option maxRecDepth 20000 in
theorem in_X4_forgetAll : ∀ w ∈ vsX4_forgetAll, w ∈ lw_tbl := in_cons (List.mem_of_getElem? (i := 283) (by decide +kernel)) (in_app (vsX4_forgetAll_oin) (in_app (wsX40_in) in_nil))
theorem mX4_forgetAll_o : ∀ w ∈ vsX4_forgetAll_o, w ∈ vsX4_forgetAll := fun w h => List.mem_cons_of_mem _ (List.mem_append_left _ h)
theorem mX4_forgetAll_wsX40 : ∀ w ∈ wsX40, w ∈ vsX4_forgetAll := fun w h => List.mem_cons_of_mem _ (List.mem_append_right _ (List.mem_append_left _ h))
def vsX4_has_o : List Cond := [.fieldLink RX4 30 "GuardedGrammar$Terms" "size" "I"]
set_option maxRecDepth 20000 in
theorem vsX4_has_oin : ∀ w ∈ vsX4_has_o, w ∈ lw_tbl := wsL_mem _ [92] (by decide +kernel)
def vsX4_has : List Cond := .code yX4_has cX4_has 2 (some .boolean) :: (vsX4_has_o ++ (wsX40 ++ ([] : List Cond)))
theorem gd_X4_has : ∀ w ∈ vsX4_has, gdW w := gd_cons rfl (gd_app (gd_all (by decide +kernel)) (gd_app (gd_ws) gd_nil))
set_option maxRecDepth 20000 in
theorem in_X4_has : ∀ w ∈ vsX4_has, w ∈ lw_tbl := in_cons (List.mem_of_getElem? (i := 475) (by decide +kernel)) (in_app (vsX4_has_oin) (in_app (wsX40_in) in_nil))
theorem mX4_has_o : ∀ w ∈ vsX4_has_o, w ∈ vsX4_has := fun w h => List.mem_cons_of_mem _ (List.mem_append_left _ h)
theorem mX4_has_wsX40 : ∀ w ∈ wsX40, w ∈ vsX4_has := fun w h => List.mem_cons_of_mem _ (List.mem_append_right _ (List.mem_append_left _ h))
def vsX4_init_o : List Cond := [.methodLink RX4 3 objectInit, .instanceMethod objectInit, .code objectInit ⟨#[0xb1]⟩ 1 none, .arrayClass .int, .fieldLink RX4 9 "GuardedGrammar$Terms" "kinds" "[I", .fieldLink RX4 15 "GuardedGrammar$Terms" "values" "[I", .fieldLink RX4 18 "GuardedGrammar$Terms" "lefts" "[I", .fieldLink RX4 21 "GuardedGrammar$Terms" "rights" "[I", .fieldLink RX4 24 "GuardedGrammar$Terms" "wholes" "[I", .fieldLink RX4 27 "GuardedGrammar$Terms" "knots" "[I", .fieldLink RX4 30 "GuardedGrammar$Terms" "size" "I"]
set_option maxRecDepth 20000 in
theorem vsX4_init_oin : ∀ w ∈ vsX4_init_o, w ∈ lw_tbl := wsL_mem _ [85, 78, 79, 108, 86, 87, 88, 89, 90, 91, 92] (by decide +kernel)
def vsX4_init : List Cond := .code yX4_init cX4_init 1 none :: (vsX4_init_o ++ (wsX40 ++ ([] : List Cond)))
theorem gd_X4_init : ∀ w ∈ vsX4_init, gdW w := gd_cons rfl (gd_app (gd_all (by decide +kernel)) (gd_app (gd_ws) gd_nil))
set_option maxRecDepth 20000 in
theorem in_X4_init : ∀ w ∈ vsX4_init, w ∈ lw_tbl := in_cons (List.mem_of_getElem? (i := 84) (by decide +kernel)) (in_app (vsX4_init_oin) (in_app (wsX40_in) in_nil))
theorem mX4_init_o : ∀ w ∈ vsX4_init_o, w ∈ vsX4_init := fun w h => List.mem_cons_of_mem _ (List.mem_append_left _ h)
theorem mX4_init_wsX40 : ∀ w ∈ wsX40, w ∈ vsX4_init := fun w h => List.mem_cons_of_mem _ (List.mem_append_right _ (List.mem_append_left _ h))
def vsX4_isFull_o : List Cond := [.fieldLink RX4 30 "GuardedGrammar$Terms" "size" "I"]
set_option maxRecDepth 20000 in
theorem vsX4_isFull_oin : ∀ w ∈ vsX4_isFull_o, w ∈ lw_tbl := wsL_mem _ [92] (by decide +kernel)
def vsX4_isFull : List Cond := .code yX4_isFull cX4_isFull 1 (some .boolean) :: (vsX4_isFull_o ++ (wsX40 ++ ([] : List Cond)))
theorem gd_X4_isFull : ∀ w ∈ vsX4_isFull, gdW w := gd_cons rfl (gd_app (gd_all (by decide +kernel)) (gd_app (gd_ws) gd_nil))
set_option maxRecDepth 20000 in
theorem in_X4_isFull : ∀ w ∈ vsX4_isFull, w ∈ lw_tbl := in_cons (List.mem_of_getElem? (i := 417) (by decide +kernel)) (in_app (vsX4_isFull_oin) (in_app (wsX40_in) in_nil))
theorem mX4_isFull_o : ∀ w ∈ vsX4_isFull_o, w ∈ vsX4_isFull := fun w h => List.mem_cons_of_mem _ (List.mem_append_left _ h)
theorem mX4_isFull_wsX40 : ∀ w ∈ wsX40, w ∈ vsX4_isFull := fun w h => List.mem_cons_of_mem _ (List.mem_append_right _ (List.mem_append_left _ h))
def vsX4_isPart_o : List Cond := [.fieldLink RX4 24 "GuardedGrammar$Terms" "wholes" "[I"]
set_option maxRecDepth 20000 in
theorem vsX4_isPart_oin : ∀ w ∈ vsX4_isPart_o, w ∈ lw_tbl := wsL_mem _ [90] (by decide +kernel)
def vsX4_isPart : List Cond := .code yX4_isPart cX4_isPart 2 (some .boolean) :: (vsX4_isPart_o ++ (wsX40 ++ ([] : List Cond)))
theorem gd_X4_isPart : ∀ w ∈ vsX4_isPart, gdW w := gd_cons rfl (gd_app (gd_all (by decide +kernel)) (gd_app (gd_ws) gd_nil))
set_option maxRecDepth 20000 in
theorem in_X4_isPart : ∀ w ∈ vsX4_isPart, w ∈ lw_tbl := in_cons (List.mem_of_getElem? (i := 494) (by decide +kernel)) (in_app (vsX4_isPart_oin) (in_app (wsX40_in) in_nil))
theorem mX4_isPart_o : ∀ w ∈ vsX4_isPart_o, w ∈ vsX4_isPart := fun w h => List.mem_cons_of_mem _ (List.mem_append_left _ h)
theorem mX4_isPart_wsX40 : ∀ w ∈ wsX40, w ∈ vsX4_isPart := fun w h => List.mem_cons_of_mem _ (List.mem_append_right _ (List.mem_append_left _ h))
def vsX4_size_o : List Cond := [.fieldLink RX4 30 "GuardedGrammar$Terms" "size" "I"]
set_option maxRecDepth 20000 in
theorem vsX4_size_oin : ∀ w ∈ vsX4_size_o, w ∈ lw_tbl := wsL_mem _ [92] (by decide +kernel)
def vsX4_size : List Cond := .code yX4_size cX4_size 1 (some .int) :: (vsX4_size_o ++ (wsX40 ++ ([] : List Cond)))
theorem gd_X4_size : ∀ w ∈ vsX4_size, gdW w := gd_cons rfl (gd_app (gd_all (by decide +kernel)) (gd_app (gd_ws) gd_nil))
set_option maxRecDepth 20000 in
theorem in_X4_size : ∀ w ∈ vsX4_size, w ∈ lw_tbl := in_cons (List.mem_of_getElem? (i := 291) (by decide +kernel)) (in_app (vsX4_size_oin) (in_app (wsX40_in) in_nil))
theorem mX4_size_o : ∀ w ∈ vsX4_size_o, w ∈ vsX4_size := fun w h => List.mem_cons_of_mem _ (List.mem_append_left _ h)
theorem mX4_size_wsX40 : ∀ w ∈ wsX40, w ∈ vsX4_size := fun w h => List.mem_cons_of_mem _ (List.mem_append_right _ (List.mem_append_left _ h))
def vsX4_whole_o : List Cond := [.fieldLink RX4 24 "GuardedGrammar$Terms" "wholes" "[I"]
set_option maxRecDepth 20000 in
theorem vsX4_whole_oin : ∀ w ∈ vsX4_whole_o, w ∈ lw_tbl := wsL_mem _ [90] (by decide +kernel)
def vsX4_whole : List Cond := .code yX4_whole cX4_whole 2 (some .int) :: (vsX4_whole_o ++ (wsX40 ++ ([] : List Cond)))
theorem gd_X4_whole : ∀ w ∈ vsX4_whole, gdW w := gd_cons rfl (gd_app (gd_all (by decide +kernel)) (gd_app (gd_ws) gd_nil))
set_option maxRecDepth 20000 in
theorem in_X4_whole : ∀ w ∈ vsX4_whole, w ∈ lw_tbl := in_cons (List.mem_of_getElem? (i := 552) (by decide +kernel)) (in_app (vsX4_whole_oin) (in_app (wsX40_in) in_nil))
theorem mX4_whole_o : ∀ w ∈ vsX4_whole_o, w ∈ vsX4_whole := fun w h => List.mem_cons_of_mem _ (List.mem_append_left _ h)
theorem mX4_whole_wsX40 : ∀ w ∈ wsX40, w ∈ vsX4_whole := fun w h => List.mem_cons_of_mem _ (List.mem_append_right _ (List.mem_append_left _ h))
def vsX5_addToType_o : List Cond := [.fieldLink RX5 25 "GuardedGrammar$Typing" "nullable" "[Z", .fieldLink RX5 28 "GuardedGrammar$Typing" "firsts" "[I", .fieldLink RX5 31 "GuardedGrammar$Typing" "afters" "[I"]
set_option maxRecDepth 20000 in
theorem vsX5_addToType_oin : ∀ w ∈ vsX5_addToType_o, w ∈ lw_tbl := wsL_mem _ [120, 121, 122] (by decide +kernel)
def vsX5_addToType : List Cond := .code yX5_addToType cX5_addToType 6 (some .boolean) :: (vsX5_addToType_o ++ (wsX50 ++ ([] : List Cond)))
theorem gd_X5_addToType : ∀ w ∈ vsX5_addToType, gdW w := gd_cons rfl (gd_app (gd_all (by decide +kernel)) (gd_app (gd_ws) gd_nil))
set_option maxRecDepth 20000 in
theorem in_X5_addToType : ∀ w ∈ vsX5_addToType, w ∈ lw_tbl := in_cons (List.mem_of_getElem? (i := 568) (by decide +kernel)) (in_app (vsX5_addToType_oin) (in_app (wsX50_in) in_nil))
theorem mX5_addToType_o : ∀ w ∈ vsX5_addToType_o, w ∈ vsX5_addToType := fun w h => List.mem_cons_of_mem _ (List.mem_append_left _ h)
theorem mX5_addToType_wsX50 : ∀ w ∈ wsX50, w ∈ vsX5_addToType := fun w h => List.mem_cons_of_mem _ (List.mem_append_right _ (List.mem_append_left _ h))
def vsX5_addTypeOf_o : List Cond := [.fieldLink RX5 25 "GuardedGrammar$Typing" "nullable" "[Z", .fieldLink RX5 28 "GuardedGrammar$Typing" "firsts" "[I", .fieldLink RX5 31 "GuardedGrammar$Typing" "afters" "[I"]
set_option maxRecDepth 20000 in
theorem vsX5_addTypeOf_oin : ∀ w ∈ vsX5_addTypeOf_o, w ∈ lw_tbl := wsL_mem _ [120, 121, 122] (by decide +kernel)
def vsX5_addTypeOf : List Cond := .code yX5_addTypeOf cX5_addTypeOf 3 (some .boolean) :: (vsX5_addTypeOf_o ++ (wsX50 ++ (wsV RX5 78 RX5 yX5_addToType vsX5_addToType ++ ([] : List Cond))))
theorem gd_X5_addTypeOf : ∀ w ∈ vsX5_addTypeOf, gdW w := gd_cons rfl (gd_app (gd_all (by decide +kernel)) (gd_app (gd_ws) (gd_app (gd_V gd_X5_addToType) gd_nil)))
set_option maxRecDepth 20000 in
theorem in_X5_addTypeOf : ∀ w ∈ vsX5_addTypeOf, w ∈ lw_tbl := in_cons (List.mem_of_getElem? (i := 576) (by decide +kernel)) (in_app (vsX5_addTypeOf_oin) (in_app (wsX50_in) (in_app (in_app (wsL_mem _ [565, 567, 9, 55] (by decide +kernel)) in_X5_addToType) in_nil)))
theorem mX5_addTypeOf_o : ∀ w ∈ vsX5_addTypeOf_o, w ∈ vsX5_addTypeOf := fun w h => List.mem_cons_of_mem _ (List.mem_append_left _ h)
theorem mX5_addTypeOf_wsX50 : ∀ w ∈ wsX50, w ∈ vsX5_addTypeOf := fun w h => List.mem_cons_of_mem _ (List.mem_append_right _ (List.mem_append_left _ h))
theorem gX5_addTypeOf_X5_addToType : GoodIn vsX5_addTypeOf (wsV RX5 78 RX5 yX5_addToType vsX5_addToType) := fun w h => ⟨List.mem_cons_of_mem _ (List.mem_append_right _ (List.mem_append_right _ (List.mem_append_left _ h))), gd_V gd_X5_addToType w h⟩
def vsX5_afterOf_o : List Cond := [.fieldLink RX5 31 "GuardedGrammar$Typing" "afters" "[I"]
set_option maxRecDepth 20000 in
theorem vsX5_afterOf_oin : ∀ w ∈ vsX5_afterOf_o, w ∈ lw_tbl := wsL_mem _ [122] (by decide +kernel)
def vsX5_afterOf : List Cond := .code yX5_afterOf cX5_afterOf 2 (some .int) :: (vsX5_afterOf_o ++ (wsX50 ++ ([] : List Cond)))
theorem gd_X5_afterOf : ∀ w ∈ vsX5_afterOf, gdW w := gd_cons rfl (gd_app (gd_all (by decide +kernel)) (gd_app (gd_ws) gd_nil))
set_option maxRecDepth 20000 in
theorem in_X5_afterOf : ∀ w ∈ vsX5_afterOf, w ∈ lw_tbl := in_cons (List.mem_of_getElem? (i := 615) (by decide +kernel)) (in_app (vsX5_afterOf_oin) (in_app (wsX50_in) in_nil))
theorem mX5_afterOf_o : ∀ w ∈ vsX5_afterOf_o, w ∈ vsX5_afterOf := fun w h => List.mem_cons_of_mem _ (List.mem_append_left _ h)
theorem mX5_afterOf_wsX50 : ∀ w ∈ wsX50, w ∈ vsX5_afterOf := fun w h => List.mem_cons_of_mem _ (List.mem_append_right _ (List.mem_append_left _ h))
def vsX5_bind_o : List Cond := [.fieldLink RX5 18 "GuardedGrammar$Typing" "binders" "[I", .fieldLink RX5 21 "GuardedGrammar$Typing" "guarded" "[Z", .fieldLink RX5 38 "GuardedGrammar$Typing" "terms" "LGuardedGrammar$Terms;"]
set_option maxRecDepth 20000 in
theorem vsX5_bind_oin : ∀ w ∈ vsX5_bind_o, w ∈ lw_tbl := wsL_mem _ [118, 119, 115] (by decide +kernel)
def vsX5_bind : List Cond := .code yX5_bind cX5_bind 6 none :: (vsX5_bind_o ++ (wsX50 ++ (wsV RX5 65 RX4 yX4_kind vsX4_kind ++ (wsV RX5 68 RX4 yX4_whole vsX4_whole ++ (wsV RX5 59 RX4 yX4_right vsX4_right ++ (wsV RX5 71 RX4 yX4_value vsX4_value ++ ([] : List Cond)))))))
theorem gd_X5_bind : ∀ w ∈ vsX5_bind, gdW w := gd_cons rfl (gd_app (gd_all (by decide +kernel)) (gd_app (gd_ws) (gd_app (gd_V gd_X4_kind) (gd_app (gd_V gd_X4_whole) (gd_app (gd_V gd_X4_right) (gd_app (gd_V gd_X4_value) gd_nil))))))
set_option maxRecDepth 20000 in
theorem in_X5_bind : ∀ w ∈ vsX5_bind, w ∈ lw_tbl := in_cons (List.mem_of_getElem? (i := 544) (by decide +kernel)) (in_app (vsX5_bind_oin) (in_app (wsX50_in) (in_app (in_app (wsL_mem _ [545, 546, 547, 54] (by decide +kernel)) in_X4_kind) (in_app (in_app (wsL_mem _ [549, 550, 551, 54] (by decide +kernel)) in_X4_whole) (in_app (in_app (wsL_mem _ [537, 538, 539, 54] (by decide +kernel)) in_X4_right) (in_app (in_app (wsL_mem _ [553, 554, 555, 54] (by decide +kernel)) in_X4_value) in_nil))))))
theorem mX5_bind_o : ∀ w ∈ vsX5_bind_o, w ∈ vsX5_bind := fun w h => List.mem_cons_of_mem _ (List.mem_append_left _ h)
theorem mX5_bind_wsX50 : ∀ w ∈ wsX50, w ∈ vsX5_bind := fun w h => List.mem_cons_of_mem _ (List.mem_append_right _ (List.mem_append_left _ h))
theorem gX5_bind_X4_kind : GoodIn vsX5_bind (wsV RX5 65 RX4 yX4_kind vsX4_kind) := fun w h => ⟨List.mem_cons_of_mem _ (List.mem_append_right _ (List.mem_append_right _ (List.mem_append_left _ h))), gd_V gd_X4_kind w h⟩
theorem gX5_bind_X4_whole : GoodIn vsX5_bind (wsV RX5 68 RX4 yX4_whole vsX4_whole) := fun w h => ⟨List.mem_cons_of_mem _ (List.mem_append_right _ (List.mem_append_right _ (List.mem_append_right _ (List.mem_append_left _ h)))), gd_V gd_X4_whole w h⟩
theorem gX5_bind_X4_right : GoodIn vsX5_bind (wsV RX5 59 RX4 yX4_right vsX4_right) := fun w h => ⟨List.mem_cons_of_mem _ (List.mem_append_right _ (List.mem_append_right _ (List.mem_append_right _ (List.mem_append_right _ (List.mem_append_left _ h))))), gd_V gd_X4_right w h⟩
theorem gX5_bind_X4_value : GoodIn vsX5_bind (wsV RX5 71 RX4 yX4_value vsX4_value) := fun w h => ⟨List.mem_cons_of_mem _ (List.mem_append_right _ (List.mem_append_right _ (List.mem_append_right _ (List.mem_append_right _ (List.mem_append_right _ (List.mem_append_left _ h)))))), gd_V gd_X4_value w h⟩
def vsX5_isLoose_o : List Cond := [.fieldLink RX5 25 "GuardedGrammar$Typing" "nullable" "[Z", .fieldLink RX5 31 "GuardedGrammar$Typing" "afters" "[I", .fieldLink RX5 28 "GuardedGrammar$Typing" "firsts" "[I"]
set_option maxRecDepth 20000 in
theorem vsX5_isLoose_oin : ∀ w ∈ vsX5_isLoose_o, w ∈ lw_tbl := wsL_mem _ [120, 122, 121] (by decide +kernel)
def vsX5_isLoose : List Cond := .code yX5_isLoose cX5_isLoose 3 (some .boolean) :: (vsX5_isLoose_o ++ (wsX50 ++ ([] : List Cond)))
theorem gd_X5_isLoose : ∀ w ∈ vsX5_isLoose, gdW w := gd_cons rfl (gd_app (gd_all (by decide +kernel)) (gd_app (gd_ws) gd_nil))
set_option maxRecDepth 20000 in
theorem in_X5_isLoose : ∀ w ∈ vsX5_isLoose, w ∈ lw_tbl := in_cons (List.mem_of_getElem? (i := 588) (by decide +kernel)) (in_app (vsX5_isLoose_oin) (in_app (wsX50_in) in_nil))
theorem mX5_isLoose_o : ∀ w ∈ vsX5_isLoose_o, w ∈ vsX5_isLoose := fun w h => List.mem_cons_of_mem _ (List.mem_append_left _ h)
theorem mX5_isLoose_wsX50 : ∀ w ∈ wsX50, w ∈ vsX5_isLoose := fun w h => List.mem_cons_of_mem _ (List.mem_append_right _ (List.mem_append_left _ h))
def vsX5_isDouble_o : List Cond := [.fieldLink RX5 25 "GuardedGrammar$Typing" "nullable" "[Z", .fieldLink RX5 28 "GuardedGrammar$Typing" "firsts" "[I"]
set_option maxRecDepth 20000 in
theorem vsX5_isDouble_oin : ∀ w ∈ vsX5_isDouble_o, w ∈ lw_tbl := wsL_mem _ [120, 121] (by decide +kernel)
def vsX5_isDouble : List Cond := .code yX5_isDouble cX5_isDouble 3 (some .boolean) :: (vsX5_isDouble_o ++ (wsX50 ++ ([] : List Cond)))
theorem gd_X5_isDouble : ∀ w ∈ vsX5_isDouble, gdW w := gd_cons rfl (gd_app (gd_all (by decide +kernel)) (gd_app (gd_ws) gd_nil))
set_option maxRecDepth 20000 in
theorem in_X5_isDouble : ∀ w ∈ vsX5_isDouble, w ∈ lw_tbl := in_cons (List.mem_of_getElem? (i := 592) (by decide +kernel)) (in_app (vsX5_isDouble_oin) (in_app (wsX50_in) in_nil))
theorem mX5_isDouble_o : ∀ w ∈ vsX5_isDouble_o, w ∈ vsX5_isDouble := fun w h => List.mem_cons_of_mem _ (List.mem_append_left _ h)
theorem mX5_isDouble_wsX50 : ∀ w ∈ wsX50, w ∈ vsX5_isDouble := fun w h => List.mem_cons_of_mem _ (List.mem_append_right _ (List.mem_append_left _ h))
def vsX5_faultAt_o : List Cond := [.fieldLink RX5 38 "GuardedGrammar$Typing" "terms" "LGuardedGrammar$Terms;", .fieldLink RX5 18 "GuardedGrammar$Typing" "binders" "[I", .fieldLink RX5 21 "GuardedGrammar$Typing" "guarded" "[Z"]
set_option maxRecDepth 20000 in
theorem vsX5_faultAt_oin : ∀ w ∈ vsX5_faultAt_o, w ∈ lw_tbl := wsL_mem _ [115, 118, 119] (by decide +kernel)
def vsX5_faultAt : List Cond := .code yX5_faultAt cX5_faultAt 2 (some .int) :: (vsX5_faultAt_o ++ (wsX50 ++ (wsV RX5 65 RX4 yX4_kind vsX4_kind ++ (wsV RX5 53 RX4 yX4_left vsX4_left ++ (wsV RX5 59 RX4 yX4_right vsX4_right ++ (wsV RX5 90 RX5 yX5_isLoose vsX5_isLoose ++ (wsV RX5 93 RX5 yX5_isDouble vsX5_isDouble ++ ([] : List Cond))))))))
theorem gd_X5_faultAt : ∀ w ∈ vsX5_faultAt, gdW w := gd_cons rfl (gd_app (gd_all (by decide +kernel)) (gd_app (gd_ws) (gd_app (gd_V gd_X4_kind) (gd_app (gd_V gd_X4_left) (gd_app (gd_V gd_X4_right) (gd_app (gd_V gd_X5_isLoose) (gd_app (gd_V gd_X5_isDouble) gd_nil)))))))
set_option maxRecDepth 20000 in
theorem in_X5_faultAt : ∀ w ∈ vsX5_faultAt, w ∈ lw_tbl := in_cons (List.mem_of_getElem? (i := 584) (by decide +kernel)) (in_app (vsX5_faultAt_oin) (in_app (wsX50_in) (in_app (in_app (wsL_mem _ [545, 546, 547, 54] (by decide +kernel)) in_X4_kind) (in_app (in_app (wsL_mem _ [533, 534, 535, 54] (by decide +kernel)) in_X4_left) (in_app (in_app (wsL_mem _ [537, 538, 539, 54] (by decide +kernel)) in_X4_right) (in_app (in_app (wsL_mem _ [585, 587, 13, 55] (by decide +kernel)) in_X5_isLoose) (in_app (in_app (wsL_mem _ [589, 591, 14, 55] (by decide +kernel)) in_X5_isDouble) in_nil)))))))
theorem mX5_faultAt_o : ∀ w ∈ vsX5_faultAt_o, w ∈ vsX5_faultAt := fun w h => List.mem_cons_of_mem _ (List.mem_append_left _ h)
theorem mX5_faultAt_wsX50 : ∀ w ∈ wsX50, w ∈ vsX5_faultAt := fun w h => List.mem_cons_of_mem _ (List.mem_append_right _ (List.mem_append_left _ h))
theorem gX5_faultAt_X4_kind : GoodIn vsX5_faultAt (wsV RX5 65 RX4 yX4_kind vsX4_kind) := fun w h => ⟨List.mem_cons_of_mem _ (List.mem_append_right _ (List.mem_append_right _ (List.mem_append_left _ h))), gd_V gd_X4_kind w h⟩
theorem gX5_faultAt_X4_left : GoodIn vsX5_faultAt (wsV RX5 53 RX4 yX4_left vsX4_left) := fun w h => ⟨List.mem_cons_of_mem _ (List.mem_append_right _ (List.mem_append_right _ (List.mem_append_right _ (List.mem_append_left _ h)))), gd_V gd_X4_left w h⟩
theorem gX5_faultAt_X4_right : GoodIn vsX5_faultAt (wsV RX5 59 RX4 yX4_right vsX4_right) := fun w h => ⟨List.mem_cons_of_mem _ (List.mem_append_right _ (List.mem_append_right _ (List.mem_append_right _ (List.mem_append_right _ (List.mem_append_left _ h))))), gd_V gd_X4_right w h⟩
theorem gX5_faultAt_X5_isLoose : GoodIn vsX5_faultAt (wsV RX5 90 RX5 yX5_isLoose vsX5_isLoose) := fun w h => ⟨List.mem_cons_of_mem _ (List.mem_append_right _ (List.mem_append_right _ (List.mem_append_right _ (List.mem_append_right _ (List.mem_append_right _ (List.mem_append_left _ h)))))), gd_V gd_X5_isLoose w h⟩
theorem gX5_faultAt_X5_isDouble : GoodIn vsX5_faultAt (wsV RX5 93 RX5 yX5_isDouble vsX5_isDouble) := fun w h => ⟨List.mem_cons_of_mem _ (List.mem_append_right _ (List.mem_append_right _ (List.mem_append_right _ (List.mem_append_right _ (List.mem_append_right _ (List.mem_append_right _ (List.mem_append_left _ h))))))), gd_V gd_X5_isDouble w h⟩
def vsX5_firstFault_o : List Cond := [.fieldLink RX5 34 "GuardedGrammar$Typing" "start" "I", .fieldLink RX5 9 "GuardedGrammar$Typing" "order" "[I"]
set_option maxRecDepth 20000 in
theorem vsX5_firstFault_oin : ∀ w ∈ vsX5_firstFault_o, w ∈ lw_tbl := wsL_mem _ [123, 116] (by decide +kernel)
def vsX5_firstFault : List Cond := .code yX5_firstFault cX5_firstFault 3 (some .int) :: (vsX5_firstFault_o ++ (wsX50 ++ (wsV RX5 62 RX5 yX5_faultAt vsX5_faultAt ++ ([] : List Cond))))
theorem gd_X5_firstFault : ∀ w ∈ vsX5_firstFault, gdW w := gd_cons rfl (gd_app (gd_all (by decide +kernel)) (gd_app (gd_ws) (gd_app (gd_V gd_X5_faultAt) gd_nil)))
set_option maxRecDepth 20000 in
theorem in_X5_firstFault : ∀ w ∈ vsX5_firstFault, w ∈ lw_tbl := in_cons (List.mem_of_getElem? (i := 580) (by decide +kernel)) (in_app (vsX5_firstFault_oin) (in_app (wsX50_in) (in_app (in_app (wsL_mem _ [581, 583, 12, 55] (by decide +kernel)) in_X5_faultAt) in_nil)))
theorem mX5_firstFault_o : ∀ w ∈ vsX5_firstFault_o, w ∈ vsX5_firstFault := fun w h => List.mem_cons_of_mem _ (List.mem_append_left _ h)
theorem mX5_firstFault_wsX50 : ∀ w ∈ wsX50, w ∈ vsX5_firstFault := fun w h => List.mem_cons_of_mem _ (List.mem_append_right _ (List.mem_append_left _ h))
theorem gX5_firstFault_X5_faultAt : GoodIn vsX5_firstFault (wsV RX5 62 RX5 yX5_faultAt vsX5_faultAt) := fun w h => ⟨List.mem_cons_of_mem _ (List.mem_append_right _ (List.mem_append_right _ (List.mem_append_left _ h))), gd_V gd_X5_faultAt w h⟩
def vsX5_widenPair_o : List Cond := [.fieldLink RX5 28 "GuardedGrammar$Typing" "firsts" "[I", .fieldLink RX5 25 "GuardedGrammar$Typing" "nullable" "[Z", .fieldLink RX5 31 "GuardedGrammar$Typing" "afters" "[I"]
set_option maxRecDepth 20000 in
theorem vsX5_widenPair_oin : ∀ w ∈ vsX5_widenPair_o, w ∈ lw_tbl := wsL_mem _ [121, 120, 122] (by decide +kernel)
def vsX5_widenPair : List Cond := .code yX5_widenPair cX5_widenPair 6 (some .boolean) :: (vsX5_widenPair_o ++ (wsX50 ++ (wsV RX5 78 RX5 yX5_addToType vsX5_addToType ++ ([] : List Cond))))
theorem gd_X5_widenPair : ∀ w ∈ vsX5_widenPair, gdW w := gd_cons rfl (gd_app (gd_all (by decide +kernel)) (gd_app (gd_ws) (gd_app (gd_V gd_X5_addToType) gd_nil)))
set_option maxRecDepth 20000 in
theorem in_X5_widenPair : ∀ w ∈ vsX5_widenPair, w ∈ lw_tbl := in_cons (List.mem_of_getElem? (i := 572) (by decide +kernel)) (in_app (vsX5_widenPair_oin) (in_app (wsX50_in) (in_app (in_app (wsL_mem _ [565, 567, 9, 55] (by decide +kernel)) in_X5_addToType) in_nil)))
theorem mX5_widenPair_o : ∀ w ∈ vsX5_widenPair_o, w ∈ vsX5_widenPair := fun w h => List.mem_cons_of_mem _ (List.mem_append_left _ h)
theorem mX5_widenPair_wsX50 : ∀ w ∈ wsX50, w ∈ vsX5_widenPair := fun w h => List.mem_cons_of_mem _ (List.mem_append_right _ (List.mem_append_left _ h))
theorem gX5_widenPair_X5_addToType : GoodIn vsX5_widenPair (wsV RX5 78 RX5 yX5_addToType vsX5_addToType) := fun w h => ⟨List.mem_cons_of_mem _ (List.mem_append_right _ (List.mem_append_right _ (List.mem_append_left _ h))), gd_V gd_X5_addToType w h⟩
def vsX5_widen_o : List Cond := [.fieldLink RX5 38 "GuardedGrammar$Typing" "terms" "LGuardedGrammar$Terms;", .fieldLink RX5 18 "GuardedGrammar$Typing" "binders" "[I"]
set_option maxRecDepth 20000 in
theorem vsX5_widen_oin : ∀ w ∈ vsX5_widen_o, w ∈ lw_tbl := wsL_mem _ [115, 118] (by decide +kernel)
def vsX5_widen : List Cond := .code yX5_widen cX5_widen 3 (some .boolean) :: (vsX5_widen_o ++ (wsX50 ++ (wsV RX5 65 RX4 yX4_kind vsX4_kind ++ (wsV RX5 78 RX5 yX5_addToType vsX5_addToType ++ (wsV RX5 71 RX4 yX4_value vsX4_value ++ (wsV RX5 53 RX4 yX4_left vsX4_left ++ (wsV RX5 59 RX4 yX4_right vsX4_right ++ (wsV RX5 82 RX5 yX5_widenPair vsX5_widenPair ++ (wsV RX5 86 RX5 yX5_addTypeOf vsX5_addTypeOf ++ ([] : List Cond))))))))))
theorem gd_X5_widen : ∀ w ∈ vsX5_widen, gdW w := gd_cons rfl (gd_app (gd_all (by decide +kernel)) (gd_app (gd_ws) (gd_app (gd_V gd_X4_kind) (gd_app (gd_V gd_X5_addToType) (gd_app (gd_V gd_X4_value) (gd_app (gd_V gd_X4_left) (gd_app (gd_V gd_X4_right) (gd_app (gd_V gd_X5_widenPair) (gd_app (gd_V gd_X5_addTypeOf) gd_nil)))))))))
set_option maxRecDepth 20000 in
theorem in_X5_widen : ∀ w ∈ vsX5_widen, w ∈ lw_tbl := in_cons (List.mem_of_getElem? (i := 564) (by decide +kernel)) (in_app (vsX5_widen_oin) (in_app (wsX50_in) (in_app (in_app (wsL_mem _ [545, 546, 547, 54] (by decide +kernel)) in_X4_kind) (in_app (in_app (wsL_mem _ [565, 567, 9, 55] (by decide +kernel)) in_X5_addToType) (in_app (in_app (wsL_mem _ [553, 554, 555, 54] (by decide +kernel)) in_X4_value) (in_app (in_app (wsL_mem _ [533, 534, 535, 54] (by decide +kernel)) in_X4_left) (in_app (in_app (wsL_mem _ [537, 538, 539, 54] (by decide +kernel)) in_X4_right) (in_app (in_app (wsL_mem _ [569, 571, 10, 55] (by decide +kernel)) in_X5_widenPair) (in_app (in_app (wsL_mem _ [573, 575, 11, 55] (by decide +kernel)) in_X5_addTypeOf) in_nil)))))))))
theorem mX5_widen_o : ∀ w ∈ vsX5_widen_o, w ∈ vsX5_widen := fun w h => List.mem_cons_of_mem _ (List.mem_append_left _ h)
theorem mX5_widen_wsX50 : ∀ w ∈ wsX50, w ∈ vsX5_widen := fun w h => List.mem_cons_of_mem _ (List.mem_append_right _ (List.mem_append_left _ h))
theorem gX5_widen_X4_kind : GoodIn vsX5_widen (wsV RX5 65 RX4 yX4_kind vsX4_kind) := fun w h => ⟨List.mem_cons_of_mem _ (List.mem_append_right _ (List.mem_append_right _ (List.mem_append_left _ h))), gd_V gd_X4_kind w h⟩
theorem gX5_widen_X5_addToType : GoodIn vsX5_widen (wsV RX5 78 RX5 yX5_addToType vsX5_addToType) := fun w h => ⟨List.mem_cons_of_mem _ (List.mem_append_right _ (List.mem_append_right _ (List.mem_append_right _ (List.mem_append_left _ h)))), gd_V gd_X5_addToType w h⟩
theorem gX5_widen_X4_value : GoodIn vsX5_widen (wsV RX5 71 RX4 yX4_value vsX4_value) := fun w h => ⟨List.mem_cons_of_mem _ (List.mem_append_right _ (List.mem_append_right _ (List.mem_append_right _ (List.mem_append_right _ (List.mem_append_left _ h))))), gd_V gd_X4_value w h⟩
theorem gX5_widen_X4_left : GoodIn vsX5_widen (wsV RX5 53 RX4 yX4_left vsX4_left) := fun w h => ⟨List.mem_cons_of_mem _ (List.mem_append_right _ (List.mem_append_right _ (List.mem_append_right _ (List.mem_append_right _ (List.mem_append_right _ (List.mem_append_left _ h)))))), gd_V gd_X4_left w h⟩
theorem gX5_widen_X4_right : GoodIn vsX5_widen (wsV RX5 59 RX4 yX4_right vsX4_right) := fun w h => ⟨List.mem_cons_of_mem _ (List.mem_append_right _ (List.mem_append_right _ (List.mem_append_right _ (List.mem_append_right _ (List.mem_append_right _ (List.mem_append_right _ (List.mem_append_left _ h))))))), gd_V gd_X4_right w h⟩
theorem gX5_widen_X5_widenPair : GoodIn vsX5_widen (wsV RX5 82 RX5 yX5_widenPair vsX5_widenPair) := fun w h => ⟨List.mem_cons_of_mem _ (List.mem_append_right _ (List.mem_append_right _ (List.mem_append_right _ (List.mem_append_right _ (List.mem_append_right _ (List.mem_append_right _ (List.mem_append_right _ (List.mem_append_left _ h)))))))), gd_V gd_X5_widenPair w h⟩
theorem gX5_widen_X5_addTypeOf : GoodIn vsX5_widen (wsV RX5 86 RX5 yX5_addTypeOf vsX5_addTypeOf) := fun w h => ⟨List.mem_cons_of_mem _ (List.mem_append_right _ (List.mem_append_right _ (List.mem_append_right _ (List.mem_append_right _ (List.mem_append_right _ (List.mem_append_right _ (List.mem_append_right _ (List.mem_append_right _ (List.mem_append_left _ h))))))))), gd_V gd_X5_addTypeOf w h⟩
def vsX5_inferTypes_o : List Cond := [.fieldLink RX5 34 "GuardedGrammar$Typing" "start" "I", .fieldLink RX5 9 "GuardedGrammar$Typing" "order" "[I", .fieldLink RX5 25 "GuardedGrammar$Typing" "nullable" "[Z", .fieldLink RX5 28 "GuardedGrammar$Typing" "firsts" "[I", .fieldLink RX5 31 "GuardedGrammar$Typing" "afters" "[I"]
set_option maxRecDepth 20000 in
theorem vsX5_inferTypes_oin : ∀ w ∈ vsX5_inferTypes_o, w ∈ lw_tbl := wsL_mem _ [123, 116, 120, 121, 122] (by decide +kernel)
def vsX5_inferTypes : List Cond := .code yX5_inferTypes cX5_inferTypes 4 none :: (vsX5_inferTypes_o ++ (wsX50 ++ (wsV RX5 74 RX5 yX5_widen vsX5_widen ++ ([] : List Cond))))
theorem gd_X5_inferTypes : ∀ w ∈ vsX5_inferTypes, gdW w := gd_cons rfl (gd_app (gd_all (by decide +kernel)) (gd_app (gd_ws) (gd_app (gd_V gd_X5_widen) gd_nil)))
set_option maxRecDepth 20000 in
theorem in_X5_inferTypes : ∀ w ∈ vsX5_inferTypes, w ∈ lw_tbl := in_cons (List.mem_of_getElem? (i := 560) (by decide +kernel)) (in_app (vsX5_inferTypes_oin) (in_app (wsX50_in) (in_app (in_app (wsL_mem _ [561, 563, 8, 55] (by decide +kernel)) in_X5_widen) in_nil)))
theorem mX5_inferTypes_o : ∀ w ∈ vsX5_inferTypes_o, w ∈ vsX5_inferTypes := fun w h => List.mem_cons_of_mem _ (List.mem_append_left _ h)
theorem mX5_inferTypes_wsX50 : ∀ w ∈ wsX50, w ∈ vsX5_inferTypes := fun w h => List.mem_cons_of_mem _ (List.mem_append_right _ (List.mem_append_left _ h))
theorem gX5_inferTypes_X5_widen : GoodIn vsX5_inferTypes (wsV RX5 74 RX5 yX5_widen vsX5_widen) := fun w h => ⟨List.mem_cons_of_mem _ (List.mem_append_right _ (List.mem_append_right _ (List.mem_append_left _ h))), gd_V gd_X5_widen w h⟩
def vsX5_init_o : List Cond := [.methodLink RX5 3 objectInit, .instanceMethod objectInit, .code objectInit ⟨#[0xb1]⟩ 1 none, .arrayClass .int, .fieldLink RX5 9 "GuardedGrammar$Typing" "order" "[I", .fieldLink RX5 15 "GuardedGrammar$Typing" "waiting" "[I", .fieldLink RX5 18 "GuardedGrammar$Typing" "binders" "[I", .arrayClass .boolean, .fieldLink RX5 21 "GuardedGrammar$Typing" "guarded" "[Z", .fieldLink RX5 25 "GuardedGrammar$Typing" "nullable" "[Z", .fieldLink RX5 28 "GuardedGrammar$Typing" "firsts" "[I", .fieldLink RX5 31 "GuardedGrammar$Typing" "afters" "[I", .fieldLink RX5 34 "GuardedGrammar$Typing" "start" "I", .fieldLink RX5 38 "GuardedGrammar$Typing" "terms" "LGuardedGrammar$Terms;"]
set_option maxRecDepth 20000 in
theorem vsX5_init_oin : ∀ w ∈ vsX5_init_o, w ∈ lw_tbl := wsL_mem _ [114, 78, 79, 108, 116, 117, 118, 143, 119, 120, 121, 122, 123, 115] (by decide +kernel)
def vsX5_init : List Cond := .code yX5_init cX5_init 2 none :: (vsX5_init_o ++ (wsX50 ++ ([] : List Cond)))
theorem gd_X5_init : ∀ w ∈ vsX5_init, gdW w := gd_cons rfl (gd_app (gd_all (by decide +kernel)) (gd_app (gd_ws) gd_nil))
set_option maxRecDepth 20000 in
theorem in_X5_init : ∀ w ∈ vsX5_init, w ∈ lw_tbl := in_cons (List.mem_of_getElem? (i := 113) (by decide +kernel)) (in_app (vsX5_init_oin) (in_app (wsX50_in) in_nil))
theorem mX5_init_o : ∀ w ∈ vsX5_init_o, w ∈ vsX5_init := fun w h => List.mem_cons_of_mem _ (List.mem_append_left _ h)
theorem mX5_init_wsX50 : ∀ w ∈ wsX50, w ∈ vsX5_init := fun w h => List.mem_cons_of_mem _ (List.mem_append_right _ (List.mem_append_left _ h))
def vsX5_lineUp_o : List Cond := [.fieldLink RX5 34 "GuardedGrammar$Typing" "start" "I", .fieldLink RX5 15 "GuardedGrammar$Typing" "waiting" "[I", .fieldLink RX5 9 "GuardedGrammar$Typing" "order" "[I", .fieldLink RX5 38 "GuardedGrammar$Typing" "terms" "LGuardedGrammar$Terms;"]
set_option maxRecDepth 20000 in
theorem vsX5_lineUp_oin : ∀ w ∈ vsX5_lineUp_o, w ∈ lw_tbl := wsL_mem _ [123, 117, 116, 115] (by decide +kernel)
def vsX5_lineUp : List Cond := .code yX5_lineUp cX5_lineUp 4 none :: (vsX5_lineUp_o ++ (wsX50 ++ (wsV RX5 53 RX4 yX4_left vsX4_left ++ (wsV RX5 59 RX4 yX4_right vsX4_right ++ ([] : List Cond)))))
theorem gd_X5_lineUp : ∀ w ∈ vsX5_lineUp, gdW w := gd_cons rfl (gd_app (gd_all (by decide +kernel)) (gd_app (gd_ws) (gd_app (gd_V gd_X4_left) (gd_app (gd_V gd_X4_right) gd_nil))))
set_option maxRecDepth 20000 in
theorem in_X5_lineUp : ∀ w ∈ vsX5_lineUp, w ∈ lw_tbl := in_cons (List.mem_of_getElem? (i := 532) (by decide +kernel)) (in_app (vsX5_lineUp_oin) (in_app (wsX50_in) (in_app (in_app (wsL_mem _ [533, 534, 535, 54] (by decide +kernel)) in_X4_left) (in_app (in_app (wsL_mem _ [537, 538, 539, 54] (by decide +kernel)) in_X4_right) in_nil))))
theorem mX5_lineUp_o : ∀ w ∈ vsX5_lineUp_o, w ∈ vsX5_lineUp := fun w h => List.mem_cons_of_mem _ (List.mem_append_left _ h)
theorem mX5_lineUp_wsX50 : ∀ w ∈ wsX50, w ∈ vsX5_lineUp := fun w h => List.mem_cons_of_mem _ (List.mem_append_right _ (List.mem_append_left _ h))
theorem gX5_lineUp_X4_left : GoodIn vsX5_lineUp (wsV RX5 53 RX4 yX4_left vsX4_left) := fun w h => ⟨List.mem_cons_of_mem _ (List.mem_append_right _ (List.mem_append_right _ (List.mem_append_left _ h))), gd_V gd_X4_left w h⟩
theorem gX5_lineUp_X4_right : GoodIn vsX5_lineUp (wsV RX5 59 RX4 yX4_right vsX4_right) := fun w h => ⟨List.mem_cons_of_mem _ (List.mem_append_right _ (List.mem_append_right _ (List.mem_append_right _ (List.mem_append_left _ h)))), gd_V gd_X4_right w h⟩
def vsX5_study_o : List Cond := [.fieldLink RX5 34 "GuardedGrammar$Typing" "start" "I", .fieldLink RX5 9 "GuardedGrammar$Typing" "order" "[I"]
set_option maxRecDepth 20000 in
theorem vsX5_study_oin : ∀ w ∈ vsX5_study_o, w ∈ lw_tbl := wsL_mem _ [123, 116] (by decide +kernel)
def vsX5_study : List Cond := .code yX5_study cX5_study 3 none :: (vsX5_study_o ++ (wsX50 ++ (wsV RX5 42 RX5 yX5_lineUp vsX5_lineUp ++ (wsV RX5 46 RX5 yX5_bind vsX5_bind ++ (wsV RX5 50 RX5 yX5_inferTypes vsX5_inferTypes ++ ([] : List Cond))))))
theorem gd_X5_study : ∀ w ∈ vsX5_study, gdW w := gd_cons rfl (gd_app (gd_all (by decide +kernel)) (gd_app (gd_ws) (gd_app (gd_V gd_X5_lineUp) (gd_app (gd_V gd_X5_bind) (gd_app (gd_V gd_X5_inferTypes) gd_nil)))))
set_option maxRecDepth 20000 in
theorem in_X5_study : ∀ w ∈ vsX5_study, w ∈ lw_tbl := in_cons (List.mem_of_getElem? (i := 528) (by decide +kernel)) (in_app (vsX5_study_oin) (in_app (wsX50_in) (in_app (in_app (wsL_mem _ [529, 531, 5, 55] (by decide +kernel)) in_X5_lineUp) (in_app (in_app (wsL_mem _ [541, 543, 6, 55] (by decide +kernel)) in_X5_bind) (in_app (in_app (wsL_mem _ [557, 559, 7, 55] (by decide +kernel)) in_X5_inferTypes) in_nil)))))
theorem mX5_study_o : ∀ w ∈ vsX5_study_o, w ∈ vsX5_study := fun w h => List.mem_cons_of_mem _ (List.mem_append_left _ h)
theorem mX5_study_wsX50 : ∀ w ∈ wsX50, w ∈ vsX5_study := fun w h => List.mem_cons_of_mem _ (List.mem_append_right _ (List.mem_append_left _ h))
theorem gX5_study_X5_lineUp : GoodIn vsX5_study (wsV RX5 42 RX5 yX5_lineUp vsX5_lineUp) := fun w h => ⟨List.mem_cons_of_mem _ (List.mem_append_right _ (List.mem_append_right _ (List.mem_append_left _ h))), gd_V gd_X5_lineUp w h⟩
theorem gX5_study_X5_bind : GoodIn vsX5_study (wsV RX5 46 RX5 yX5_bind vsX5_bind) := fun w h => ⟨List.mem_cons_of_mem _ (List.mem_append_right _ (List.mem_append_right _ (List.mem_append_right _ (List.mem_append_left _ h)))), gd_V gd_X5_bind w h⟩
theorem gX5_study_X5_inferTypes : GoodIn vsX5_study (wsV RX5 50 RX5 yX5_inferTypes vsX5_inferTypes) := fun w h => ⟨List.mem_cons_of_mem _ (List.mem_append_right _ (List.mem_append_right _ (List.mem_append_right _ (List.mem_append_right _ (List.mem_append_left _ h))))), gd_V gd_X5_inferTypes w h⟩
def vsX6_init_o : List Cond := [.methodLink RX6 3 objectInit, .instanceMethod objectInit, .code objectInit ⟨#[0xb1]⟩ 1 none, .arrayClass .int, .fieldLink RX6 9 "GuardedGrammar$Word" "letters" "[I", .fieldLink RX6 15 "GuardedGrammar$Word" "size" "I"]
set_option maxRecDepth 20000 in
theorem vsX6_init_oin : ∀ w ∈ vsX6_init_o, w ∈ lw_tbl := wsL_mem _ [149, 78, 79, 108, 150, 151] (by decide +kernel)
def vsX6_init : List Cond := .code yX6_init cX6_init 1 none :: (vsX6_init_o ++ (wsX60 ++ ([] : List Cond)))
theorem gd_X6_init : ∀ w ∈ vsX6_init, gdW w := gd_cons rfl (gd_app (gd_all (by decide +kernel)) (gd_app (gd_ws) gd_nil))
set_option maxRecDepth 20000 in
theorem in_X6_init : ∀ w ∈ vsX6_init, w ∈ lw_tbl := in_cons (List.mem_of_getElem? (i := 148) (by decide +kernel)) (in_app (vsX6_init_oin) (in_app (wsX60_in) in_nil))
theorem mX6_init_o : ∀ w ∈ vsX6_init_o, w ∈ vsX6_init := fun w h => List.mem_cons_of_mem _ (List.mem_append_left _ h)
theorem mX6_init_wsX60 : ∀ w ∈ wsX60, w ∈ vsX6_init := fun w h => List.mem_cons_of_mem _ (List.mem_append_right _ (List.mem_append_left _ h))
def vsX6_isFull_o : List Cond := [.fieldLink RX6 15 "GuardedGrammar$Word" "size" "I"]
set_option maxRecDepth 20000 in
theorem vsX6_isFull_oin : ∀ w ∈ vsX6_isFull_o, w ∈ lw_tbl := wsL_mem _ [151] (by decide +kernel)
def vsX6_isFull : List Cond := .code yX6_isFull cX6_isFull 1 (some .boolean) :: (vsX6_isFull_o ++ (wsX60 ++ ([] : List Cond)))
theorem gd_X6_isFull : ∀ w ∈ vsX6_isFull, gdW w := gd_cons rfl (gd_app (gd_all (by decide +kernel)) (gd_app (gd_ws) gd_nil))
set_option maxRecDepth 20000 in
theorem in_X6_isFull : ∀ w ∈ vsX6_isFull, w ∈ lw_tbl := in_cons (List.mem_of_getElem? (i := 299) (by decide +kernel)) (in_app (vsX6_isFull_oin) (in_app (wsX60_in) in_nil))
theorem mX6_isFull_o : ∀ w ∈ vsX6_isFull_o, w ∈ vsX6_isFull := fun w h => List.mem_cons_of_mem _ (List.mem_append_left _ h)
theorem mX6_isFull_wsX60 : ∀ w ∈ wsX60, w ∈ vsX6_isFull := fun w h => List.mem_cons_of_mem _ (List.mem_append_right _ (List.mem_append_left _ h))
def vsX7_clear_o : List Cond := [.fieldLink RX7 12 "GuardedGrammar" "terms" "LGuardedGrammar$Terms;"]
set_option maxRecDepth 20000 in
theorem vsX7_clear_oin : ∀ w ∈ vsX7_clear_o, w ∈ lw_tbl := wsL_mem _ [254] (by decide +kernel)
def vsX7_clear : List Cond := .code yX7_clear cX7_clear 1 none :: (vsX7_clear_o ++ (wsX70 ++ (wsV RX7 92 RX4 yX4_forgetAll vsX4_forgetAll ++ ([] : List Cond))))
theorem gd_X7_clear : ∀ w ∈ vsX7_clear, gdW w := gd_cons rfl (gd_app (gd_all (by decide +kernel)) (gd_app (gd_ws) (gd_app (gd_V gd_X4_forgetAll) gd_nil)))
set_option maxRecDepth 20000 in
theorem in_X7_clear : ∀ w ∈ vsX7_clear, w ∈ lw_tbl := in_cons (List.mem_of_getElem? (i := 279) (by decide +kernel)) (in_app (vsX7_clear_oin) (in_app (wsX70_in) (in_app (in_app (wsL_mem _ [280, 281, 282, 54] (by decide +kernel)) in_X4_forgetAll) in_nil)))
theorem mX7_clear_o : ∀ w ∈ vsX7_clear_o, w ∈ vsX7_clear := fun w h => List.mem_cons_of_mem _ (List.mem_append_left _ h)
theorem mX7_clear_wsX70 : ∀ w ∈ wsX70, w ∈ vsX7_clear := fun w h => List.mem_cons_of_mem _ (List.mem_append_right _ (List.mem_append_left _ h))
theorem gX7_clear_X4_forgetAll : GoodIn vsX7_clear (wsV RX7 92 RX4 yX4_forgetAll vsX4_forgetAll) := fun w h => ⟨List.mem_cons_of_mem _ (List.mem_append_right _ (List.mem_append_right _ (List.mem_append_left _ h))), gd_V gd_X4_forgetAll w h⟩
def vsX7_needTerm_o : List Cond := [.fieldLink RX7 12 "GuardedGrammar" "terms" "LGuardedGrammar$Terms;", .classLink RX7 105 "java/lang/IndexOutOfBoundsException", .initialized "java/lang/IndexOutOfBoundsException"]
set_option maxRecDepth 20000 in
theorem vsX7_needTerm_oin : ∀ w ∈ vsX7_needTerm_o, w ∈ lw_tbl := wsL_mem _ [254, 476, 68] (by decide +kernel)
def vsX7_needTerm : List Cond := .code yX7_needTerm cX7_needTerm 2 none :: (vsX7_needTerm_o ++ (wsX70 ++ (wsV RX7 171 RX4 yX4_has vsX4_has ++ ((vx_at0 RX7 107 "java/lang/IndexOutOfBoundsException" ["java/lang/RuntimeException", "java/lang/Exception"]).filter goodWord ++ ([] : List Cond)))))
theorem gd_X7_needTerm : ∀ w ∈ vsX7_needTerm, gdW w := gd_cons rfl (gd_app (gd_all (by decide +kernel)) (gd_app (gd_ws) (gd_app (gd_V gd_X4_has) (gd_app (gd_f _) gd_nil))))
set_option maxRecDepth 20000 in
theorem in_X7_needTerm : ∀ w ∈ vsX7_needTerm, w ∈ lw_tbl := in_cons (List.mem_of_getElem? (i := 471) (by decide +kernel)) (in_app (vsX7_needTerm_oin) (in_app (wsX70_in) (in_app (in_app (wsL_mem _ [472, 473, 474, 54] (by decide +kernel)) in_X4_has) (in_app (wsL_law_x3) in_nil))))
theorem mX7_needTerm_o : ∀ w ∈ vsX7_needTerm_o, w ∈ vsX7_needTerm := fun w h => List.mem_cons_of_mem _ (List.mem_append_left _ h)
theorem mX7_needTerm_wsX70 : ∀ w ∈ wsX70, w ∈ vsX7_needTerm := fun w h => List.mem_cons_of_mem _ (List.mem_append_right _ (List.mem_append_left _ h))
theorem gX7_needTerm_X4_has : GoodIn vsX7_needTerm (wsV RX7 171 RX4 yX4_has vsX4_has) := fun w h => ⟨List.mem_cons_of_mem _ (List.mem_append_right _ (List.mem_append_right _ (List.mem_append_left _ h))), gd_V gd_X4_has w h⟩
theorem mX7_needTerm_t107 : ∀ w ∈ (vx_at0 RX7 107 "java/lang/IndexOutOfBoundsException" ["java/lang/RuntimeException", "java/lang/Exception"]).filter goodWord, w ∈ vsX7_needTerm := fun w h => List.mem_cons_of_mem _ (List.mem_append_right _ (List.mem_append_right _ (List.mem_append_right _ (List.mem_append_left _ h))))
def vsX7_needTyped_o : List Cond := [.fieldLink RX7 21 "GuardedGrammar" "typing" "LGuardedGrammar$Typing;", .classLink RX7 82 "java/lang/IllegalStateException", .initialized "java/lang/IllegalStateException"]
set_option maxRecDepth 20000 in
theorem vsX7_needTyped_oin : ∀ w ∈ vsX7_needTyped_o, w ∈ lw_tbl := wsL_mem _ [255, 495, 69] (by decide +kernel)
def vsX7_needTyped : List Cond := .code yX7_needTyped cX7_needTyped 2 none :: (vsX7_needTyped_o ++ (wsX70 ++ (wsV RX7 99 RX5 yX5_study vsX5_study ++ (wsV RX7 102 RX5 yX5_firstFault vsX5_firstFault ++ ((vx_at0 RX7 84 "java/lang/IllegalStateException" ["java/lang/RuntimeException", "java/lang/Exception"]).filter goodWord ++ ([] : List Cond))))))
theorem gd_X7_needTyped : ∀ w ∈ vsX7_needTyped, gdW w := gd_cons rfl (gd_app (gd_all (by decide +kernel)) (gd_app (gd_ws) (gd_app (gd_V gd_X5_study) (gd_app (gd_V gd_X5_firstFault) (gd_app (gd_f _) gd_nil)))))
set_option maxRecDepth 20000 in
theorem in_X7_needTyped : ∀ w ∈ vsX7_needTyped, w ∈ lw_tbl := in_cons (List.mem_of_getElem? (i := 603) (by decide +kernel)) (in_app (vsX7_needTyped_oin) (in_app (wsX70_in) (in_app (in_app (wsL_mem _ [525, 526, 527, 55] (by decide +kernel)) in_X5_study) (in_app (in_app (wsL_mem _ [577, 578, 579, 55] (by decide +kernel)) in_X5_firstFault) (in_app (wsL_law_x2) in_nil)))))
theorem mX7_needTyped_o : ∀ w ∈ vsX7_needTyped_o, w ∈ vsX7_needTyped := fun w h => List.mem_cons_of_mem _ (List.mem_append_left _ h)
theorem mX7_needTyped_wsX70 : ∀ w ∈ wsX70, w ∈ vsX7_needTyped := fun w h => List.mem_cons_of_mem _ (List.mem_append_right _ (List.mem_append_left _ h))
theorem gX7_needTyped_X5_study : GoodIn vsX7_needTyped (wsV RX7 99 RX5 yX5_study vsX5_study) := fun w h => ⟨List.mem_cons_of_mem _ (List.mem_append_right _ (List.mem_append_right _ (List.mem_append_left _ h))), gd_V gd_X5_study w h⟩
theorem gX7_needTyped_X5_firstFault : GoodIn vsX7_needTyped (wsV RX7 102 RX5 yX5_firstFault vsX5_firstFault) := fun w h => ⟨List.mem_cons_of_mem _ (List.mem_append_right _ (List.mem_append_right _ (List.mem_append_right _ (List.mem_append_left _ h)))), gd_V gd_X5_firstFault w h⟩
theorem mX7_needTyped_t84 : ∀ w ∈ (vx_at0 RX7 84 "java/lang/IllegalStateException" ["java/lang/RuntimeException", "java/lang/Exception"]).filter goodWord, w ∈ vsX7_needTyped := fun w h => List.mem_cons_of_mem _ (List.mem_append_right _ (List.mem_append_right _ (List.mem_append_right _ (List.mem_append_right _ (List.mem_append_left _ h)))))
def vsX7_countTo_o : List Cond := [.classLink RX7 61 "java/lang/IllegalArgumentException", .initialized "java/lang/IllegalArgumentException", .fieldLink RX7 44 "GuardedGrammar" "tally" "LGuardedGrammar$Tally;"]
set_option maxRecDepth 20000 in
theorem vsX7_countTo_oin : ∀ w ∈ vsX7_countTo_o, w ∈ lw_tbl := wsL_mem _ [345, 65, 258] (by decide +kernel)
def vsX7_countTo : List Cond := .code yX7_countTo cX7_countTo 3 none :: (vsX7_countTo_o ++ (wsX70 ++ (wsV RX7 75 RX7 yX7_needTerm vsX7_needTerm ++ (wsV RX7 108 RX7 yX7_needTyped vsX7_needTyped ++ (wsV RX7 169 RX3 yX3_countTo vsX3_countTo ++ ((vx_at0 RX7 63 "java/lang/IllegalArgumentException" ["java/lang/RuntimeException", "java/lang/Exception"]).filter goodWord ++ ([] : List Cond)))))))
theorem gd_X7_countTo : ∀ w ∈ vsX7_countTo, gdW w := gd_cons rfl (gd_app (gd_all (by decide +kernel)) (gd_app (gd_ws) (gd_app (gd_V gd_X7_needTerm) (gd_app (gd_V gd_X7_needTyped) (gd_app (gd_V gd_X3_countTo) (gd_app (gd_f _) gd_nil))))))
set_option maxRecDepth 20000 in
theorem in_X7_countTo : ∀ w ∈ vsX7_countTo, w ∈ lw_tbl := in_cons (List.mem_of_getElem? (i := 711) (by decide +kernel)) (in_app (vsX7_countTo_oin) (in_app (wsX70_in) (in_app (in_app (wsL_mem _ [468, 470, 4, 53] (by decide +kernel)) in_X7_needTerm) (in_app (in_app (wsL_mem _ [600, 602, 15, 53] (by decide +kernel)) in_X7_needTyped) (in_app (in_app (wsL_mem _ [712, 713, 714, 59] (by decide +kernel)) in_X3_countTo) (in_app (wsL_law_x0) in_nil))))))
theorem mX7_countTo_o : ∀ w ∈ vsX7_countTo_o, w ∈ vsX7_countTo := fun w h => List.mem_cons_of_mem _ (List.mem_append_left _ h)
theorem mX7_countTo_wsX70 : ∀ w ∈ wsX70, w ∈ vsX7_countTo := fun w h => List.mem_cons_of_mem _ (List.mem_append_right _ (List.mem_append_left _ h))
theorem gX7_countTo_X7_needTerm : GoodIn vsX7_countTo (wsV RX7 75 RX7 yX7_needTerm vsX7_needTerm) := fun w h => ⟨List.mem_cons_of_mem _ (List.mem_append_right _ (List.mem_append_right _ (List.mem_append_left _ h))), gd_V gd_X7_needTerm w h⟩
theorem gX7_countTo_X7_needTyped : GoodIn vsX7_countTo (wsV RX7 108 RX7 yX7_needTyped vsX7_needTyped) := fun w h => ⟨List.mem_cons_of_mem _ (List.mem_append_right _ (List.mem_append_right _ (List.mem_append_right _ (List.mem_append_left _ h)))), gd_V gd_X7_needTyped w h⟩
theorem gX7_countTo_X3_countTo : GoodIn vsX7_countTo (wsV RX7 169 RX3 yX3_countTo vsX3_countTo) := fun w h => ⟨List.mem_cons_of_mem _ (List.mem_append_right _ (List.mem_append_right _ (List.mem_append_right _ (List.mem_append_right _ (List.mem_append_left _ h))))), gd_V gd_X3_countTo w h⟩
theorem mX7_countTo_t63 : ∀ w ∈ (vx_at0 RX7 63 "java/lang/IllegalArgumentException" ["java/lang/RuntimeException", "java/lang/Exception"]).filter goodWord, w ∈ vsX7_countTo := fun w h => List.mem_cons_of_mem _ (List.mem_append_right _ (List.mem_append_right _ (List.mem_append_right _ (List.mem_append_right _ (List.mem_append_right _ (List.mem_append_left _ h))))))
def vsX7_count_o : List Cond := [.fieldLink RX7 44 "GuardedGrammar" "tally" "LGuardedGrammar$Tally;"]
set_option maxRecDepth 20000 in
theorem vsX7_count_oin : ∀ w ∈ vsX7_count_o, w ∈ lw_tbl := wsL_mem _ [258] (by decide +kernel)
def vsX7_count : List Cond := .code yX7_count cX7_count 3 (some .long) :: (vsX7_count_o ++ (wsX70 ++ (wsV RX7 154 RX7 yX7_countTo vsX7_countTo ++ (wsV RX7 158 RX3 yX3_words vsX3_words ++ ([] : List Cond)))))
theorem gd_X7_count : ∀ w ∈ vsX7_count, gdW w := gd_cons rfl (gd_app (gd_all (by decide +kernel)) (gd_app (gd_ws) (gd_app (gd_V gd_X7_countTo) (gd_app (gd_V gd_X3_words) gd_nil))))
set_option maxRecDepth 20000 in
theorem in_X7_count : ∀ w ∈ vsX7_count, w ∈ lw_tbl := in_cons (List.mem_of_getElem? (i := 707) (by decide +kernel)) (in_app (vsX7_count_oin) (in_app (wsX70_in) (in_app (in_app (wsL_mem _ [708, 710, 20, 53] (by decide +kernel)) in_X7_countTo) (in_app (in_app (wsL_mem _ [740, 741, 742, 59] (by decide +kernel)) in_X3_words) in_nil))))
theorem mX7_count_o : ∀ w ∈ vsX7_count_o, w ∈ vsX7_count := fun w h => List.mem_cons_of_mem _ (List.mem_append_left _ h)
theorem mX7_count_wsX70 : ∀ w ∈ wsX70, w ∈ vsX7_count := fun w h => List.mem_cons_of_mem _ (List.mem_append_right _ (List.mem_append_left _ h))
theorem gX7_count_X7_countTo : GoodIn vsX7_count (wsV RX7 154 RX7 yX7_countTo vsX7_countTo) := fun w h => ⟨List.mem_cons_of_mem _ (List.mem_append_right _ (List.mem_append_right _ (List.mem_append_left _ h))), gd_V gd_X7_countTo w h⟩
theorem gX7_count_X3_words : GoodIn vsX7_count (wsV RX7 158 RX3 yX3_words vsX3_words) := fun w h => ⟨List.mem_cons_of_mem _ (List.mem_append_right _ (List.mem_append_right _ (List.mem_append_right _ (List.mem_append_left _ h)))), gd_V gd_X3_words w h⟩
def vsX7_cut_o : List Cond := [.fieldLink RX7 28 "GuardedGrammar" "word" "LGuardedGrammar$Word;"]
set_option maxRecDepth 20000 in
theorem vsX7_cut_oin : ∀ w ∈ vsX7_cut_o, w ∈ lw_tbl := wsL_mem _ [256] (by decide +kernel)
def vsX7_cut : List Cond := .code yX7_cut cX7_cut 2 (some .boolean) :: (vsX7_cut_o ++ (wsX70 ++ (wsV RX7 126 RX6 yX6_size vsX6_size ++ (wsV RX7 127 RX6 yX6_keep vsX6_keep ++ ([] : List Cond)))))
theorem gd_X7_cut : ∀ w ∈ vsX7_cut, gdW w := gd_cons rfl (gd_app (gd_all (by decide +kernel)) (gd_app (gd_ws) (gd_app (gd_V gd_X6_size) (gd_app (gd_V gd_X6_keep) gd_nil))))
set_option maxRecDepth 20000 in
theorem in_X7_cut : ∀ w ∈ vsX7_cut, w ∈ lw_tbl := in_cons (List.mem_of_getElem? (i := 307) (by decide +kernel)) (in_app (vsX7_cut_oin) (in_app (wsX70_in) (in_app (in_app (wsL_mem _ [308, 309, 310, 56] (by decide +kernel)) in_X6_size) (in_app (in_app (wsL_mem _ [312, 313, 314, 56] (by decide +kernel)) in_X6_keep) in_nil))))
theorem mX7_cut_o : ∀ w ∈ vsX7_cut_o, w ∈ vsX7_cut := fun w h => List.mem_cons_of_mem _ (List.mem_append_left _ h)
theorem mX7_cut_wsX70 : ∀ w ∈ wsX70, w ∈ vsX7_cut := fun w h => List.mem_cons_of_mem _ (List.mem_append_right _ (List.mem_append_left _ h))
theorem gX7_cut_X6_size : GoodIn vsX7_cut (wsV RX7 126 RX6 yX6_size vsX6_size) := fun w h => ⟨List.mem_cons_of_mem _ (List.mem_append_right _ (List.mem_append_right _ (List.mem_append_left _ h))), gd_V gd_X6_size w h⟩
theorem gX7_cut_X6_keep : GoodIn vsX7_cut (wsV RX7 127 RX6 yX6_keep vsX6_keep) := fun w h => ⟨List.mem_cons_of_mem _ (List.mem_append_right _ (List.mem_append_right _ (List.mem_append_right _ (List.mem_append_left _ h)))), gd_V gd_X6_keep w h⟩
def vsX7_fault_o : List Cond := [.fieldLink RX7 21 "GuardedGrammar" "typing" "LGuardedGrammar$Typing;"]
set_option maxRecDepth 20000 in
theorem vsX7_fault_oin : ∀ w ∈ vsX7_fault_o, w ∈ lw_tbl := wsL_mem _ [255] (by decide +kernel)
def vsX7_fault : List Cond := .code yX7_fault cX7_fault 2 (some .int) :: (vsX7_fault_o ++ (wsX70 ++ (wsV RX7 75 RX7 yX7_needTerm vsX7_needTerm ++ (wsV RX7 99 RX5 yX5_study vsX5_study ++ (wsV RX7 102 RX5 yX5_firstFault vsX5_firstFault ++ ([] : List Cond))))))
theorem gd_X7_fault : ∀ w ∈ vsX7_fault, gdW w := gd_cons rfl (gd_app (gd_all (by decide +kernel)) (gd_app (gd_ws) (gd_app (gd_V gd_X7_needTerm) (gd_app (gd_V gd_X5_study) (gd_app (gd_V gd_X5_firstFault) gd_nil)))))
set_option maxRecDepth 20000 in
theorem in_X7_fault : ∀ w ∈ vsX7_fault, w ∈ lw_tbl := in_cons (List.mem_of_getElem? (i := 524) (by decide +kernel)) (in_app (vsX7_fault_oin) (in_app (wsX70_in) (in_app (in_app (wsL_mem _ [468, 470, 4, 53] (by decide +kernel)) in_X7_needTerm) (in_app (in_app (wsL_mem _ [525, 526, 527, 55] (by decide +kernel)) in_X5_study) (in_app (in_app (wsL_mem _ [577, 578, 579, 55] (by decide +kernel)) in_X5_firstFault) in_nil)))))
theorem mX7_fault_o : ∀ w ∈ vsX7_fault_o, w ∈ vsX7_fault := fun w h => List.mem_cons_of_mem _ (List.mem_append_left _ h)
theorem mX7_fault_wsX70 : ∀ w ∈ wsX70, w ∈ vsX7_fault := fun w h => List.mem_cons_of_mem _ (List.mem_append_right _ (List.mem_append_left _ h))
theorem gX7_fault_X7_needTerm : GoodIn vsX7_fault (wsV RX7 75 RX7 yX7_needTerm vsX7_needTerm) := fun w h => ⟨List.mem_cons_of_mem _ (List.mem_append_right _ (List.mem_append_right _ (List.mem_append_left _ h))), gd_V gd_X7_needTerm w h⟩
theorem gX7_fault_X5_study : GoodIn vsX7_fault (wsV RX7 99 RX5 yX5_study vsX5_study) := fun w h => ⟨List.mem_cons_of_mem _ (List.mem_append_right _ (List.mem_append_right _ (List.mem_append_right _ (List.mem_append_left _ h)))), gd_V gd_X5_study w h⟩
theorem gX7_fault_X5_firstFault : GoodIn vsX7_fault (wsV RX7 102 RX5 yX5_firstFault vsX5_firstFault) := fun w h => ⟨List.mem_cons_of_mem _ (List.mem_append_right _ (List.mem_append_right _ (List.mem_append_right _ (List.mem_append_right _ (List.mem_append_left _ h))))), gd_V gd_X5_firstFault w h⟩
def vsX7_find_o : List Cond := [.fieldLink RX7 44 "GuardedGrammar" "tally" "LGuardedGrammar$Tally;", .classLink RX7 162 "java/util/NoSuchElementException", .initialized "java/util/NoSuchElementException", .fieldLink RX7 53 "GuardedGrammar" "speller" "LGuardedGrammar$Speller;", .fieldLink RX7 28 "GuardedGrammar" "word" "LGuardedGrammar$Word;"]
set_option maxRecDepth 20000 in
theorem vsX7_find_oin : ∀ w ∈ vsX7_find_o, w ∈ lw_tbl := wsL_mem _ [258, 752, 70, 259, 256] (by decide +kernel)
def vsX7_find : List Cond := .code yX7_find cX7_find 5 none :: (vsX7_find_o ++ (wsX70 ++ (wsV RX7 154 RX7 yX7_countTo vsX7_countTo ++ (wsV RX7 158 RX3 yX3_words vsX3_words ++ (wsV RX7 165 RX1 yX1_spell vsX1_spell ++ ((vx_at0 RX7 164 "java/util/NoSuchElementException" ["java/lang/RuntimeException", "java/lang/Exception"]).filter goodWord ++ ([] : List Cond)))))))
theorem gd_X7_find : ∀ w ∈ vsX7_find, gdW w := gd_cons rfl (gd_app (gd_all (by decide +kernel)) (gd_app (gd_ws) (gd_app (gd_V gd_X7_countTo) (gd_app (gd_V gd_X3_words) (gd_app (gd_V gd_X1_spell) (gd_app (gd_f _) gd_nil))))))
set_option maxRecDepth 20000 in
theorem in_X7_find : ∀ w ∈ vsX7_find, w ∈ lw_tbl := in_cons (List.mem_of_getElem? (i := 751) (by decide +kernel)) (in_app (vsX7_find_oin) (in_app (wsX70_in) (in_app (in_app (wsL_mem _ [708, 710, 20, 53] (by decide +kernel)) in_X7_countTo) (in_app (in_app (wsL_mem _ [740, 741, 742, 59] (by decide +kernel)) in_X3_words) (in_app (in_app (wsL_mem _ [767, 768, 769, 60] (by decide +kernel)) in_X1_spell) (in_app (wsL_law_x4) in_nil))))))
theorem mX7_find_o : ∀ w ∈ vsX7_find_o, w ∈ vsX7_find := fun w h => List.mem_cons_of_mem _ (List.mem_append_left _ h)
theorem mX7_find_wsX70 : ∀ w ∈ wsX70, w ∈ vsX7_find := fun w h => List.mem_cons_of_mem _ (List.mem_append_right _ (List.mem_append_left _ h))
theorem gX7_find_X7_countTo : GoodIn vsX7_find (wsV RX7 154 RX7 yX7_countTo vsX7_countTo) := fun w h => ⟨List.mem_cons_of_mem _ (List.mem_append_right _ (List.mem_append_right _ (List.mem_append_left _ h))), gd_V gd_X7_countTo w h⟩
theorem gX7_find_X3_words : GoodIn vsX7_find (wsV RX7 158 RX3 yX3_words vsX3_words) := fun w h => ⟨List.mem_cons_of_mem _ (List.mem_append_right _ (List.mem_append_right _ (List.mem_append_right _ (List.mem_append_left _ h)))), gd_V gd_X3_words w h⟩
theorem gX7_find_X1_spell : GoodIn vsX7_find (wsV RX7 165 RX1 yX1_spell vsX1_spell) := fun w h => ⟨List.mem_cons_of_mem _ (List.mem_append_right _ (List.mem_append_right _ (List.mem_append_right _ (List.mem_append_right _ (List.mem_append_left _ h))))), gd_V gd_X1_spell w h⟩
theorem mX7_find_t164 : ∀ w ∈ (vx_at0 RX7 164 "java/util/NoSuchElementException" ["java/lang/RuntimeException", "java/lang/Exception"]).filter goodWord, w ∈ vsX7_find := fun w h => List.mem_cons_of_mem _ (List.mem_append_right _ (List.mem_append_right _ (List.mem_append_right _ (List.mem_append_right _ (List.mem_append_right _ (List.mem_append_left _ h))))))
def vsX7_init_o : List Cond := [.methodLink RX7 3 objectInit, .instanceMethod objectInit, .code objectInit ⟨#[0xb1]⟩ 1 none, .classLink RX7 9 RX4, .initialized RX4, .instantiable RX4 7, .fieldLink RX7 12 "GuardedGrammar" "terms" "LGuardedGrammar$Terms;", .classLink RX7 16 RX5, .initialized RX5, .instantiable RX5 9, .fieldLink RX7 21 "GuardedGrammar" "typing" "LGuardedGrammar$Typing;", .classLink RX7 25 RX6, .initialized RX6, .instantiable RX6 2, .fieldLink RX7 28 "GuardedGrammar" "word" "LGuardedGrammar$Word;", .classLink RX7 32 RX0, .initialized RX0, .instantiable RX0 8, .fieldLink RX7 37 "GuardedGrammar" "reader" "LGuardedGrammar$Reader;", .classLink RX7 41 RX3, .initialized RX3, .instantiable RX3 3, .fieldLink RX7 44 "GuardedGrammar" "tally" "LGuardedGrammar$Tally;", .classLink RX7 48 RX1, .initialized RX1, .instantiable RX1 9, .fieldLink RX7 53 "GuardedGrammar" "speller" "LGuardedGrammar$Speller;", .fieldLink RX7 57 "GuardedGrammar" "stopped" "I", .instanceMethod yX4_init, .instanceMethod yX5_init, .methodLink RX7 18 yX5_init, .instanceMethod yX6_init, .instanceMethod yX0_init, .methodLink RX7 34 yX0_init, .instanceMethod yX3_init, .methodLink RX7 43 yX3_init, .instanceMethod yX1_init, .methodLink RX7 50 yX1_init]
set_option maxRecDepth 20000 in
theorem vsX7_init_oin : ∀ w ∈ vsX7_init_o, w ∈ lw_tbl := wsL_mem _ [77, 78, 79, 80, 54, 81, 254, 109, 55, 110, 255, 144, 56, 145, 256, 157, 57, 158, 257, 202, 59, 203, 258, 220, 60, 221, 259, 260, 83, 112, 111, 147, 160, 159, 205, 204, 223, 222] (by decide +kernel)
def vsX7_init : List Cond := .code yX7_init cX7_init 1 none :: (vsX7_init_o ++ (wsX00 ++ (wsX10 ++ (wsX30 ++ (wsX40 ++ (wsX50 ++ (wsX60 ++ (wsX70 ++ (vsX4_init ++ (vsX5_init ++ (vsX6_init ++ (vsX0_init ++ (vsX3_init ++ (vsX1_init ++ ([] : List Cond)))))))))))))))
theorem gd_X7_init : ∀ w ∈ vsX7_init, gdW w := gd_cons rfl (gd_app (gd_all (by decide +kernel)) (gd_app (gd_ws) (gd_app (gd_ws) (gd_app (gd_ws) (gd_app (gd_ws) (gd_app (gd_ws) (gd_app (gd_ws) (gd_app (gd_ws) (gd_app (gd_X4_init) (gd_app (gd_X5_init) (gd_app (gd_X6_init) (gd_app (gd_X0_init) (gd_app (gd_X3_init) (gd_app (gd_X1_init) gd_nil))))))))))))))
set_option maxRecDepth 20000 in
theorem in_X7_init : ∀ w ∈ vsX7_init, w ∈ lw_tbl := in_cons (List.mem_of_getElem? (i := 76) (by decide +kernel)) (in_app (vsX7_init_oin) (in_app (wsX00_in) (in_app (wsX10_in) (in_app (wsX30_in) (in_app (wsX40_in) (in_app (wsX50_in) (in_app (wsX60_in) (in_app (wsX70_in) (in_app (in_X4_init) (in_app (in_X5_init) (in_app (in_X6_init) (in_app (in_X0_init) (in_app (in_X3_init) (in_app (in_X1_init) in_nil))))))))))))))
theorem mX7_init_o : ∀ w ∈ vsX7_init_o, w ∈ vsX7_init := fun w h => List.mem_cons_of_mem _ (List.mem_append_left _ h)
theorem mX7_init_wsX00 : ∀ w ∈ wsX00, w ∈ vsX7_init := fun w h => List.mem_cons_of_mem _ (List.mem_append_right _ (List.mem_append_left _ h))
theorem mX7_init_wsX10 : ∀ w ∈ wsX10, w ∈ vsX7_init := fun w h => List.mem_cons_of_mem _ (List.mem_append_right _ (List.mem_append_right _ (List.mem_append_left _ h)))
theorem mX7_init_wsX30 : ∀ w ∈ wsX30, w ∈ vsX7_init := fun w h => List.mem_cons_of_mem _ (List.mem_append_right _ (List.mem_append_right _ (List.mem_append_right _ (List.mem_append_left _ h))))
theorem mX7_init_wsX40 : ∀ w ∈ wsX40, w ∈ vsX7_init := fun w h => List.mem_cons_of_mem _ (List.mem_append_right _ (List.mem_append_right _ (List.mem_append_right _ (List.mem_append_right _ (List.mem_append_left _ h)))))
theorem mX7_init_wsX50 : ∀ w ∈ wsX50, w ∈ vsX7_init := fun w h => List.mem_cons_of_mem _ (List.mem_append_right _ (List.mem_append_right _ (List.mem_append_right _ (List.mem_append_right _ (List.mem_append_right _ (List.mem_append_left _ h))))))
theorem mX7_init_wsX60 : ∀ w ∈ wsX60, w ∈ vsX7_init := fun w h => List.mem_cons_of_mem _ (List.mem_append_right _ (List.mem_append_right _ (List.mem_append_right _ (List.mem_append_right _ (List.mem_append_right _ (List.mem_append_right _ (List.mem_append_left _ h)))))))
theorem mX7_init_wsX70 : ∀ w ∈ wsX70, w ∈ vsX7_init := fun w h => List.mem_cons_of_mem _ (List.mem_append_right _ (List.mem_append_right _ (List.mem_append_right _ (List.mem_append_right _ (List.mem_append_right _ (List.mem_append_right _ (List.mem_append_right _ (List.mem_append_left _ h))))))))
theorem gX7_init_X4_init_11 : GoodIn vsX7_init vsX4_init := fun w h => ⟨List.mem_cons_of_mem _ (List.mem_append_right _ (List.mem_append_right _ (List.mem_append_right _ (List.mem_append_right _ (List.mem_append_right _ (List.mem_append_right _ (List.mem_append_right _ (List.mem_append_right _ (List.mem_append_left _ h))))))))), gd_X4_init w h⟩
theorem gX7_init_X5_init_18 : GoodIn vsX7_init vsX5_init := fun w h => ⟨List.mem_cons_of_mem _ (List.mem_append_right _ (List.mem_append_right _ (List.mem_append_right _ (List.mem_append_right _ (List.mem_append_right _ (List.mem_append_right _ (List.mem_append_right _ (List.mem_append_right _ (List.mem_append_right _ (List.mem_append_left _ h)))))))))), gd_X5_init w h⟩
theorem gX7_init_X6_init_27 : GoodIn vsX7_init vsX6_init := fun w h => ⟨List.mem_cons_of_mem _ (List.mem_append_right _ (List.mem_append_right _ (List.mem_append_right _ (List.mem_append_right _ (List.mem_append_right _ (List.mem_append_right _ (List.mem_append_right _ (List.mem_append_right _ (List.mem_append_right _ (List.mem_append_right _ (List.mem_append_left _ h))))))))))), gd_X6_init w h⟩
theorem gX7_init_X0_init_34 : GoodIn vsX7_init vsX0_init := fun w h => ⟨List.mem_cons_of_mem _ (List.mem_append_right _ (List.mem_append_right _ (List.mem_append_right _ (List.mem_append_right _ (List.mem_append_right _ (List.mem_append_right _ (List.mem_append_right _ (List.mem_append_right _ (List.mem_append_right _ (List.mem_append_right _ (List.mem_append_right _ (List.mem_append_left _ h)))))))))))), gd_X0_init w h⟩
theorem gX7_init_X3_init_43 : GoodIn vsX7_init vsX3_init := fun w h => ⟨List.mem_cons_of_mem _ (List.mem_append_right _ (List.mem_append_right _ (List.mem_append_right _ (List.mem_append_right _ (List.mem_append_right _ (List.mem_append_right _ (List.mem_append_right _ (List.mem_append_right _ (List.mem_append_right _ (List.mem_append_right _ (List.mem_append_right _ (List.mem_append_right _ (List.mem_append_left _ h))))))))))))), gd_X3_init w h⟩
theorem gX7_init_X1_init_50 : GoodIn vsX7_init vsX1_init := fun w h => ⟨List.mem_cons_of_mem _ (List.mem_append_right _ (List.mem_append_right _ (List.mem_append_right _ (List.mem_append_right _ (List.mem_append_right _ (List.mem_append_right _ (List.mem_append_right _ (List.mem_append_right _ (List.mem_append_right _ (List.mem_append_right _ (List.mem_append_right _ (List.mem_append_right _ (List.mem_append_right _ (List.mem_append_left _ h)))))))))))))), gd_X1_init w h⟩
def vsX7_needRoom_o : List Cond := [.fieldLink RX7 12 "GuardedGrammar" "terms" "LGuardedGrammar$Terms;", .classLink RX7 89 "java/lang/UnsupportedOperationException", .initialized "java/lang/UnsupportedOperationException"]
set_option maxRecDepth 20000 in
theorem vsX7_needRoom_oin : ∀ w ∈ vsX7_needRoom_o, w ∈ lw_tbl := wsL_mem _ [254, 418, 66] (by decide +kernel)
def vsX7_needRoom : List Cond := .code yX7_needRoom cX7_needRoom 1 none :: (vsX7_needRoom_o ++ (wsX70 ++ (wsV RX7 174 RX4 yX4_isFull vsX4_isFull ++ ((vx_at0 RX7 91 "java/lang/UnsupportedOperationException" ["java/lang/RuntimeException", "java/lang/Exception"]).filter goodWord ++ ([] : List Cond)))))
theorem gd_X7_needRoom : ∀ w ∈ vsX7_needRoom, gdW w := gd_cons rfl (gd_app (gd_all (by decide +kernel)) (gd_app (gd_ws) (gd_app (gd_V gd_X4_isFull) (gd_app (gd_f _) gd_nil))))
set_option maxRecDepth 20000 in
theorem in_X7_needRoom : ∀ w ∈ vsX7_needRoom, w ∈ lw_tbl := in_cons (List.mem_of_getElem? (i := 413) (by decide +kernel)) (in_app (vsX7_needRoom_oin) (in_app (wsX70_in) (in_app (in_app (wsL_mem _ [414, 415, 416, 54] (by decide +kernel)) in_X4_isFull) (in_app (wsL_law_x1) in_nil))))
theorem mX7_needRoom_o : ∀ w ∈ vsX7_needRoom_o, w ∈ vsX7_needRoom := fun w h => List.mem_cons_of_mem _ (List.mem_append_left _ h)
theorem mX7_needRoom_wsX70 : ∀ w ∈ wsX70, w ∈ vsX7_needRoom := fun w h => List.mem_cons_of_mem _ (List.mem_append_right _ (List.mem_append_left _ h))
theorem gX7_needRoom_X4_isFull : GoodIn vsX7_needRoom (wsV RX7 174 RX4 yX4_isFull vsX4_isFull) := fun w h => ⟨List.mem_cons_of_mem _ (List.mem_append_right _ (List.mem_append_right _ (List.mem_append_left _ h))), gd_V gd_X4_isFull w h⟩
theorem mX7_needRoom_t91 : ∀ w ∈ (vx_at0 RX7 91 "java/lang/UnsupportedOperationException" ["java/lang/RuntimeException", "java/lang/Exception"]).filter goodWord, w ∈ vsX7_needRoom := fun w h => List.mem_cons_of_mem _ (List.mem_append_right _ (List.mem_append_right _ (List.mem_append_right _ (List.mem_append_left _ h))))
def vsX7_join_o : List Cond := [.fieldLink RX7 12 "GuardedGrammar" "terms" "LGuardedGrammar$Terms;", .classLink RX7 82 "java/lang/IllegalStateException", .initialized "java/lang/IllegalStateException"]
set_option maxRecDepth 20000 in
theorem vsX7_join_oin : ∀ w ∈ vsX7_join_o, w ∈ lw_tbl := wsL_mem _ [254, 495, 69] (by decide +kernel)
def vsX7_join : List Cond := .code yX7_join cX7_join 4 (some .int) :: (vsX7_join_o ++ (wsX70 ++ (wsV RX7 75 RX7 yX7_needTerm vsX7_needTerm ++ (wsV RX7 78 RX4 yX4_isPart vsX4_isPart ++ (wsV RX7 64 RX7 yX7_needRoom vsX7_needRoom ++ (wsV RX7 67 RX4 yX4_add vsX4_add ++ ((vx_at0 RX7 84 "java/lang/IllegalStateException" ["java/lang/RuntimeException", "java/lang/Exception"]).filter goodWord ++ ([] : List Cond))))))))
theorem gd_X7_join : ∀ w ∈ vsX7_join, gdW w := gd_cons rfl (gd_app (gd_all (by decide +kernel)) (gd_app (gd_ws) (gd_app (gd_V gd_X7_needTerm) (gd_app (gd_V gd_X4_isPart) (gd_app (gd_V gd_X7_needRoom) (gd_app (gd_V gd_X4_add) (gd_app (gd_f _) gd_nil)))))))
set_option maxRecDepth 20000 in
theorem in_X7_join : ∀ w ∈ vsX7_join, w ∈ lw_tbl := in_cons (List.mem_of_getElem? (i := 467) (by decide +kernel)) (in_app (vsX7_join_oin) (in_app (wsX70_in) (in_app (in_app (wsL_mem _ [468, 470, 4, 53] (by decide +kernel)) in_X7_needTerm) (in_app (in_app (wsL_mem _ [491, 492, 493, 54] (by decide +kernel)) in_X4_isPart) (in_app (in_app (wsL_mem _ [410, 412, 1, 53] (by decide +kernel)) in_X7_needRoom) (in_app (in_app (wsL_mem _ [433, 434, 435, 54] (by decide +kernel)) in_X4_add) (in_app (wsL_law_x2) in_nil)))))))
theorem mX7_join_o : ∀ w ∈ vsX7_join_o, w ∈ vsX7_join := fun w h => List.mem_cons_of_mem _ (List.mem_append_left _ h)
theorem mX7_join_wsX70 : ∀ w ∈ wsX70, w ∈ vsX7_join := fun w h => List.mem_cons_of_mem _ (List.mem_append_right _ (List.mem_append_left _ h))
theorem gX7_join_X7_needTerm : GoodIn vsX7_join (wsV RX7 75 RX7 yX7_needTerm vsX7_needTerm) := fun w h => ⟨List.mem_cons_of_mem _ (List.mem_append_right _ (List.mem_append_right _ (List.mem_append_left _ h))), gd_V gd_X7_needTerm w h⟩
theorem gX7_join_X4_isPart : GoodIn vsX7_join (wsV RX7 78 RX4 yX4_isPart vsX4_isPart) := fun w h => ⟨List.mem_cons_of_mem _ (List.mem_append_right _ (List.mem_append_right _ (List.mem_append_right _ (List.mem_append_left _ h)))), gd_V gd_X4_isPart w h⟩
theorem gX7_join_X7_needRoom : GoodIn vsX7_join (wsV RX7 64 RX7 yX7_needRoom vsX7_needRoom) := fun w h => ⟨List.mem_cons_of_mem _ (List.mem_append_right _ (List.mem_append_right _ (List.mem_append_right _ (List.mem_append_right _ (List.mem_append_left _ h))))), gd_V gd_X7_needRoom w h⟩
theorem gX7_join_X4_add : GoodIn vsX7_join (wsV RX7 67 RX4 yX4_add vsX4_add) := fun w h => ⟨List.mem_cons_of_mem _ (List.mem_append_right _ (List.mem_append_right _ (List.mem_append_right _ (List.mem_append_right _ (List.mem_append_right _ (List.mem_append_left _ h)))))), gd_V gd_X4_add w h⟩
theorem mX7_join_t84 : ∀ w ∈ (vx_at0 RX7 84 "java/lang/IllegalStateException" ["java/lang/RuntimeException", "java/lang/Exception"]).filter goodWord, w ∈ vsX7_join := fun w h => List.mem_cons_of_mem _ (List.mem_append_right _ (List.mem_append_right _ (List.mem_append_right _ (List.mem_append_right _ (List.mem_append_right _ (List.mem_append_right _ (List.mem_append_left _ h)))))))
def vsX7_needVariable_o : List Cond := [.classLink RX7 61 "java/lang/IllegalArgumentException", .initialized "java/lang/IllegalArgumentException"]
set_option maxRecDepth 20000 in
theorem vsX7_needVariable_oin : ∀ w ∈ vsX7_needVariable_o, w ∈ lw_tbl := wsL_mem _ [345, 65] (by decide +kernel)
def vsX7_needVariable : List Cond := .code yX7_needVariable cX7_needVariable 2 none :: (vsX7_needVariable_o ++ ((vx_at0 RX7 63 "java/lang/IllegalArgumentException" ["java/lang/RuntimeException", "java/lang/Exception"]).filter goodWord ++ ([] : List Cond)))
theorem gd_X7_needVariable : ∀ w ∈ vsX7_needVariable, gdW w := gd_cons rfl (gd_app (gd_all (by decide +kernel)) (gd_app (gd_f _) gd_nil))
set_option maxRecDepth 20000 in
theorem in_X7_needVariable : ∀ w ∈ vsX7_needVariable, w ∈ lw_tbl := in_cons (List.mem_of_getElem? (i := 458) (by decide +kernel)) (in_app (vsX7_needVariable_oin) (in_app (wsL_law_x0) in_nil))
theorem mX7_needVariable_o : ∀ w ∈ vsX7_needVariable_o, w ∈ vsX7_needVariable := fun w h => List.mem_cons_of_mem _ (List.mem_append_left _ h)
theorem mX7_needVariable_t63 : ∀ w ∈ (vx_at0 RX7 63 "java/lang/IllegalArgumentException" ["java/lang/RuntimeException", "java/lang/Exception"]).filter goodWord, w ∈ vsX7_needVariable := fun w h => List.mem_cons_of_mem _ (List.mem_append_right _ (List.mem_append_left _ h))
def vsX7_knot_o : List Cond := [.fieldLink RX7 12 "GuardedGrammar" "terms" "LGuardedGrammar$Terms;", .classLink RX7 82 "java/lang/IllegalStateException", .initialized "java/lang/IllegalStateException", .classLink RX7 89 "java/lang/UnsupportedOperationException", .initialized "java/lang/UnsupportedOperationException"]
set_option maxRecDepth 20000 in
theorem vsX7_knot_oin : ∀ w ∈ vsX7_knot_o, w ∈ lw_tbl := wsL_mem _ [254, 495, 69, 418, 66] (by decide +kernel)
def vsX7_knot : List Cond := .code yX7_knot cX7_knot 3 (some .int) :: (vsX7_knot_o ++ (wsX70 ++ (wsV RX7 75 RX7 yX7_needTerm vsX7_needTerm ++ (wsV RX7 78 RX4 yX4_isPart vsX4_isPart ++ (wsV RX7 71 RX7 yX7_needVariable vsX7_needVariable ++ (wsV RX7 64 RX7 yX7_needRoom vsX7_needRoom ++ (wsV RX7 85 RX4 yX4_knotsIn vsX4_knotsIn ++ (wsV RX7 67 RX4 yX4_add vsX4_add ++ ((vx_at0 RX7 84 "java/lang/IllegalStateException" ["java/lang/RuntimeException", "java/lang/Exception"]).filter goodWord ++ ((vx_at0 RX7 91 "java/lang/UnsupportedOperationException" ["java/lang/RuntimeException", "java/lang/Exception"]).filter goodWord ++ ([] : List Cond)))))))))))
theorem gd_X7_knot : ∀ w ∈ vsX7_knot, gdW w := gd_cons rfl (gd_app (gd_all (by decide +kernel)) (gd_app (gd_ws) (gd_app (gd_V gd_X7_needTerm) (gd_app (gd_V gd_X4_isPart) (gd_app (gd_V gd_X7_needVariable) (gd_app (gd_V gd_X7_needRoom) (gd_app (gd_V gd_X4_knotsIn) (gd_app (gd_V gd_X4_add) (gd_app (gd_f _) (gd_app (gd_f _) gd_nil))))))))))
set_option maxRecDepth 20000 in
theorem in_X7_knot : ∀ w ∈ vsX7_knot, w ∈ lw_tbl := in_cons (List.mem_of_getElem? (i := 516) (by decide +kernel)) (in_app (vsX7_knot_oin) (in_app (wsX70_in) (in_app (in_app (wsL_mem _ [468, 470, 4, 53] (by decide +kernel)) in_X7_needTerm) (in_app (in_app (wsL_mem _ [491, 492, 493, 54] (by decide +kernel)) in_X4_isPart) (in_app (in_app (wsL_mem _ [455, 457, 3, 53] (by decide +kernel)) in_X7_needVariable) (in_app (in_app (wsL_mem _ [410, 412, 1, 53] (by decide +kernel)) in_X7_needRoom) (in_app (in_app (wsL_mem _ [517, 438, 439, 54] (by decide +kernel)) in_X4_knotsIn) (in_app (in_app (wsL_mem _ [433, 434, 435, 54] (by decide +kernel)) in_X4_add) (in_app (wsL_law_x2) (in_app (wsL_law_x1) in_nil))))))))))
theorem mX7_knot_o : ∀ w ∈ vsX7_knot_o, w ∈ vsX7_knot := fun w h => List.mem_cons_of_mem _ (List.mem_append_left _ h)
theorem mX7_knot_wsX70 : ∀ w ∈ wsX70, w ∈ vsX7_knot := fun w h => List.mem_cons_of_mem _ (List.mem_append_right _ (List.mem_append_left _ h))
theorem gX7_knot_X7_needTerm : GoodIn vsX7_knot (wsV RX7 75 RX7 yX7_needTerm vsX7_needTerm) := fun w h => ⟨List.mem_cons_of_mem _ (List.mem_append_right _ (List.mem_append_right _ (List.mem_append_left _ h))), gd_V gd_X7_needTerm w h⟩
theorem gX7_knot_X4_isPart : GoodIn vsX7_knot (wsV RX7 78 RX4 yX4_isPart vsX4_isPart) := fun w h => ⟨List.mem_cons_of_mem _ (List.mem_append_right _ (List.mem_append_right _ (List.mem_append_right _ (List.mem_append_left _ h)))), gd_V gd_X4_isPart w h⟩
theorem gX7_knot_X7_needVariable : GoodIn vsX7_knot (wsV RX7 71 RX7 yX7_needVariable vsX7_needVariable) := fun w h => ⟨List.mem_cons_of_mem _ (List.mem_append_right _ (List.mem_append_right _ (List.mem_append_right _ (List.mem_append_right _ (List.mem_append_left _ h))))), gd_V gd_X7_needVariable w h⟩
theorem gX7_knot_X7_needRoom : GoodIn vsX7_knot (wsV RX7 64 RX7 yX7_needRoom vsX7_needRoom) := fun w h => ⟨List.mem_cons_of_mem _ (List.mem_append_right _ (List.mem_append_right _ (List.mem_append_right _ (List.mem_append_right _ (List.mem_append_right _ (List.mem_append_left _ h)))))), gd_V gd_X7_needRoom w h⟩
theorem gX7_knot_X4_knotsIn : GoodIn vsX7_knot (wsV RX7 85 RX4 yX4_knotsIn vsX4_knotsIn) := fun w h => ⟨List.mem_cons_of_mem _ (List.mem_append_right _ (List.mem_append_right _ (List.mem_append_right _ (List.mem_append_right _ (List.mem_append_right _ (List.mem_append_right _ (List.mem_append_left _ h))))))), gd_V gd_X4_knotsIn w h⟩
theorem gX7_knot_X4_add : GoodIn vsX7_knot (wsV RX7 67 RX4 yX4_add vsX4_add) := fun w h => ⟨List.mem_cons_of_mem _ (List.mem_append_right _ (List.mem_append_right _ (List.mem_append_right _ (List.mem_append_right _ (List.mem_append_right _ (List.mem_append_right _ (List.mem_append_right _ (List.mem_append_left _ h)))))))), gd_V gd_X4_add w h⟩
theorem mX7_knot_t84 : ∀ w ∈ (vx_at0 RX7 84 "java/lang/IllegalStateException" ["java/lang/RuntimeException", "java/lang/Exception"]).filter goodWord, w ∈ vsX7_knot := fun w h => List.mem_cons_of_mem _ (List.mem_append_right _ (List.mem_append_right _ (List.mem_append_right _ (List.mem_append_right _ (List.mem_append_right _ (List.mem_append_right _ (List.mem_append_right _ (List.mem_append_right _ (List.mem_append_left _ h)))))))))
theorem mX7_knot_t91 : ∀ w ∈ (vx_at0 RX7 91 "java/lang/UnsupportedOperationException" ["java/lang/RuntimeException", "java/lang/Exception"]).filter goodWord, w ∈ vsX7_knot := fun w h => List.mem_cons_of_mem _ (List.mem_append_right _ (List.mem_append_right _ (List.mem_append_right _ (List.mem_append_right _ (List.mem_append_right _ (List.mem_append_right _ (List.mem_append_right _ (List.mem_append_right _ (List.mem_append_right _ (List.mem_append_left _ h))))))))))
def vsX7_leaf_o : List Cond := [.classLink RX7 61 "java/lang/IllegalArgumentException", .initialized "java/lang/IllegalArgumentException", .fieldLink RX7 12 "GuardedGrammar" "terms" "LGuardedGrammar$Terms;"]
set_option maxRecDepth 20000 in
theorem vsX7_leaf_oin : ∀ w ∈ vsX7_leaf_o, w ∈ lw_tbl := wsL_mem _ [345, 65, 254] (by decide +kernel)
def vsX7_leaf : List Cond := .code yX7_leaf cX7_leaf 2 (some .int) :: (vsX7_leaf_o ++ (wsX70 ++ (wsV RX7 64 RX7 yX7_needRoom vsX7_needRoom ++ (wsV RX7 67 RX4 yX4_add vsX4_add ++ ((vx_at0 RX7 63 "java/lang/IllegalArgumentException" ["java/lang/RuntimeException", "java/lang/Exception"]).filter goodWord ++ ([] : List Cond))))))
theorem gd_X7_leaf : ∀ w ∈ vsX7_leaf, gdW w := gd_cons rfl (gd_app (gd_all (by decide +kernel)) (gd_app (gd_ws) (gd_app (gd_V gd_X7_needRoom) (gd_app (gd_V gd_X4_add) (gd_app (gd_f _) gd_nil)))))
set_option maxRecDepth 20000 in
theorem in_X7_leaf : ∀ w ∈ vsX7_leaf, w ∈ lw_tbl := in_cons (List.mem_of_getElem? (i := 344) (by decide +kernel)) (in_app (vsX7_leaf_oin) (in_app (wsX70_in) (in_app (in_app (wsL_mem _ [410, 412, 1, 53] (by decide +kernel)) in_X7_needRoom) (in_app (in_app (wsL_mem _ [433, 434, 435, 54] (by decide +kernel)) in_X4_add) (in_app (wsL_law_x0) in_nil)))))
theorem mX7_leaf_o : ∀ w ∈ vsX7_leaf_o, w ∈ vsX7_leaf := fun w h => List.mem_cons_of_mem _ (List.mem_append_left _ h)
theorem mX7_leaf_wsX70 : ∀ w ∈ wsX70, w ∈ vsX7_leaf := fun w h => List.mem_cons_of_mem _ (List.mem_append_right _ (List.mem_append_left _ h))
theorem gX7_leaf_X7_needRoom : GoodIn vsX7_leaf (wsV RX7 64 RX7 yX7_needRoom vsX7_needRoom) := fun w h => ⟨List.mem_cons_of_mem _ (List.mem_append_right _ (List.mem_append_right _ (List.mem_append_left _ h))), gd_V gd_X7_needRoom w h⟩
theorem gX7_leaf_X4_add : GoodIn vsX7_leaf (wsV RX7 67 RX4 yX4_add vsX4_add) := fun w h => ⟨List.mem_cons_of_mem _ (List.mem_append_right _ (List.mem_append_right _ (List.mem_append_right _ (List.mem_append_left _ h)))), gd_V gd_X4_add w h⟩
theorem mX7_leaf_t63 : ∀ w ∈ (vx_at0 RX7 63 "java/lang/IllegalArgumentException" ["java/lang/RuntimeException", "java/lang/Exception"]).filter goodWord, w ∈ vsX7_leaf := fun w h => List.mem_cons_of_mem _ (List.mem_append_right _ (List.mem_append_right _ (List.mem_append_right _ (List.mem_append_right _ (List.mem_append_left _ h)))))
def vsX7_length_o : List Cond := [.fieldLink RX7 28 "GuardedGrammar" "word" "LGuardedGrammar$Word;"]
set_option maxRecDepth 20000 in
theorem vsX7_length_oin : ∀ w ∈ vsX7_length_o, w ∈ lw_tbl := wsL_mem _ [256] (by decide +kernel)
def vsX7_length : List Cond := .code yX7_length cX7_length 1 (some .int) :: (vsX7_length_o ++ (wsX70 ++ (wsV RX7 126 RX6 yX6_size vsX6_size ++ ([] : List Cond))))
theorem gd_X7_length : ∀ w ∈ vsX7_length, gdW w := gd_cons rfl (gd_app (gd_all (by decide +kernel)) (gd_app (gd_ws) (gd_app (gd_V gd_X6_size) gd_nil)))
set_option maxRecDepth 20000 in
theorem in_X7_length : ∀ w ∈ vsX7_length, w ∈ lw_tbl := in_cons (List.mem_of_getElem? (i := 319) (by decide +kernel)) (in_app (vsX7_length_oin) (in_app (wsX70_in) (in_app (in_app (wsL_mem _ [308, 309, 310, 56] (by decide +kernel)) in_X6_size) in_nil)))
theorem mX7_length_o : ∀ w ∈ vsX7_length_o, w ∈ vsX7_length := fun w h => List.mem_cons_of_mem _ (List.mem_append_left _ h)
theorem mX7_length_wsX70 : ∀ w ∈ wsX70, w ∈ vsX7_length := fun w h => List.mem_cons_of_mem _ (List.mem_append_right _ (List.mem_append_left _ h))
theorem gX7_length_X6_size : GoodIn vsX7_length (wsV RX7 126 RX6 yX6_size vsX6_size) := fun w h => ⟨List.mem_cons_of_mem _ (List.mem_append_right _ (List.mem_append_right _ (List.mem_append_left _ h))), gd_V gd_X6_size w h⟩
def vsX7_letter_o : List Cond := [.fieldLink RX7 28 "GuardedGrammar" "word" "LGuardedGrammar$Word;", .classLink RX7 105 "java/lang/IndexOutOfBoundsException", .initialized "java/lang/IndexOutOfBoundsException"]
set_option maxRecDepth 20000 in
theorem vsX7_letter_oin : ∀ w ∈ vsX7_letter_o, w ∈ lw_tbl := wsL_mem _ [256, 476, 68] (by decide +kernel)
def vsX7_letter : List Cond := .code yX7_letter cX7_letter 2 (some .int) :: (vsX7_letter_o ++ (wsX70 ++ (wsV RX7 126 RX6 yX6_size vsX6_size ++ (wsV RX7 130 RX6 yX6_at vsX6_at ++ ((vx_at0 RX7 107 "java/lang/IndexOutOfBoundsException" ["java/lang/RuntimeException", "java/lang/Exception"]).filter goodWord ++ ([] : List Cond))))))
theorem gd_X7_letter : ∀ w ∈ vsX7_letter, gdW w := gd_cons rfl (gd_app (gd_all (by decide +kernel)) (gd_app (gd_ws) (gd_app (gd_V gd_X6_size) (gd_app (gd_V gd_X6_at) (gd_app (gd_f _) gd_nil)))))
set_option maxRecDepth 20000 in
theorem in_X7_letter : ∀ w ∈ vsX7_letter, w ∈ lw_tbl := in_cons (List.mem_of_getElem? (i := 622) (by decide +kernel)) (in_app (vsX7_letter_oin) (in_app (wsX70_in) (in_app (in_app (wsL_mem _ [308, 309, 310, 56] (by decide +kernel)) in_X6_size) (in_app (in_app (wsL_mem _ [623, 624, 625, 56] (by decide +kernel)) in_X6_at) (in_app (wsL_law_x3) in_nil)))))
theorem mX7_letter_o : ∀ w ∈ vsX7_letter_o, w ∈ vsX7_letter := fun w h => List.mem_cons_of_mem _ (List.mem_append_left _ h)
theorem mX7_letter_wsX70 : ∀ w ∈ wsX70, w ∈ vsX7_letter := fun w h => List.mem_cons_of_mem _ (List.mem_append_right _ (List.mem_append_left _ h))
theorem gX7_letter_X6_size : GoodIn vsX7_letter (wsV RX7 126 RX6 yX6_size vsX6_size) := fun w h => ⟨List.mem_cons_of_mem _ (List.mem_append_right _ (List.mem_append_right _ (List.mem_append_left _ h))), gd_V gd_X6_size w h⟩
theorem gX7_letter_X6_at : GoodIn vsX7_letter (wsV RX7 130 RX6 yX6_at vsX6_at) := fun w h => ⟨List.mem_cons_of_mem _ (List.mem_append_right _ (List.mem_append_right _ (List.mem_append_right _ (List.mem_append_left _ h)))), gd_V gd_X6_at w h⟩
theorem mX7_letter_t107 : ∀ w ∈ (vx_at0 RX7 107 "java/lang/IndexOutOfBoundsException" ["java/lang/RuntimeException", "java/lang/Exception"]).filter goodWord, w ∈ vsX7_letter := fun w h => List.mem_cons_of_mem _ (List.mem_append_right _ (List.mem_append_right _ (List.mem_append_right _ (List.mem_append_right _ (List.mem_append_left _ h)))))
def vsX7_put_o : List Cond := [.fieldLink RX7 28 "GuardedGrammar" "word" "LGuardedGrammar$Word;"]
set_option maxRecDepth 20000 in
theorem vsX7_put_oin : ∀ w ∈ vsX7_put_o, w ∈ lw_tbl := wsL_mem _ [256] (by decide +kernel)
def vsX7_put : List Cond := .code yX7_put cX7_put 2 (some .boolean) :: (vsX7_put_o ++ (wsX70 ++ (wsV RX7 120 RX6 yX6_isFull vsX6_isFull ++ (wsV RX7 124 RX6 yX6_add vsX6_add ++ ([] : List Cond)))))
theorem gd_X7_put : ∀ w ∈ vsX7_put, gdW w := gd_cons rfl (gd_app (gd_all (by decide +kernel)) (gd_app (gd_ws) (gd_app (gd_V gd_X6_isFull) (gd_app (gd_V gd_X6_add) gd_nil))))
set_option maxRecDepth 20000 in
theorem in_X7_put : ∀ w ∈ vsX7_put, w ∈ lw_tbl := in_cons (List.mem_of_getElem? (i := 295) (by decide +kernel)) (in_app (vsX7_put_oin) (in_app (wsX70_in) (in_app (in_app (wsL_mem _ [296, 297, 298, 56] (by decide +kernel)) in_X6_isFull) (in_app (in_app (wsL_mem _ [300, 301, 302, 56] (by decide +kernel)) in_X6_add) in_nil))))
theorem mX7_put_o : ∀ w ∈ vsX7_put_o, w ∈ vsX7_put := fun w h => List.mem_cons_of_mem _ (List.mem_append_left _ h)
theorem mX7_put_wsX70 : ∀ w ∈ wsX70, w ∈ vsX7_put := fun w h => List.mem_cons_of_mem _ (List.mem_append_right _ (List.mem_append_left _ h))
theorem gX7_put_X6_isFull : GoodIn vsX7_put (wsV RX7 120 RX6 yX6_isFull vsX6_isFull) := fun w h => ⟨List.mem_cons_of_mem _ (List.mem_append_right _ (List.mem_append_right _ (List.mem_append_left _ h))), gd_V gd_X6_isFull w h⟩
theorem gX7_put_X6_add : GoodIn vsX7_put (wsV RX7 124 RX6 yX6_add vsX6_add) := fun w h => ⟨List.mem_cons_of_mem _ (List.mem_append_right _ (List.mem_append_right _ (List.mem_append_right _ (List.mem_append_left _ h)))), gd_V gd_X6_add w h⟩
def vsX7_read_o : List Cond := [.fieldLink RX7 37 "GuardedGrammar" "reader" "LGuardedGrammar$Reader;", .fieldLink RX7 28 "GuardedGrammar" "word" "LGuardedGrammar$Word;", .fieldLink RX7 57 "GuardedGrammar" "stopped" "I", .classLink RX7 61 "java/lang/IllegalArgumentException", .initialized "java/lang/IllegalArgumentException"]
set_option maxRecDepth 20000 in
theorem vsX7_read_oin : ∀ w ∈ vsX7_read_o, w ∈ lw_tbl := wsL_mem _ [257, 256, 260, 345, 65] (by decide +kernel)
def vsX7_read : List Cond := .code yX7_read cX7_read 2 (some .int) :: (vsX7_read_o ++ (wsX70 ++ (wsV RX7 75 RX7 yX7_needTerm vsX7_needTerm ++ (wsV RX7 108 RX7 yX7_needTyped vsX7_needTyped ++ (wsV RX7 133 RX0 yX0_reads vsX0_reads ++ (wsV RX7 137 RX0 yX0_place vsX0_place ++ (wsV RX7 140 RX0 yX0_keepSteps vsX0_keepSteps ++ (wsV RX7 143 RX0 yX0_visits vsX0_visits ++ ((vx_at0 RX7 63 "java/lang/IllegalArgumentException" ["java/lang/RuntimeException", "java/lang/Exception"]).filter goodWord ++ ([] : List Cond))))))))))
theorem gd_X7_read : ∀ w ∈ vsX7_read, gdW w := gd_cons rfl (gd_app (gd_all (by decide +kernel)) (gd_app (gd_ws) (gd_app (gd_V gd_X7_needTerm) (gd_app (gd_V gd_X7_needTyped) (gd_app (gd_V gd_X0_reads) (gd_app (gd_V gd_X0_place) (gd_app (gd_V gd_X0_keepSteps) (gd_app (gd_V gd_X0_visits) (gd_app (gd_f _) gd_nil)))))))))
set_option maxRecDepth 20000 in
theorem in_X7_read : ∀ w ∈ vsX7_read, w ∈ lw_tbl := in_cons (List.mem_of_getElem? (i := 633) (by decide +kernel)) (in_app (vsX7_read_oin) (in_app (wsX70_in) (in_app (in_app (wsL_mem _ [468, 470, 4, 53] (by decide +kernel)) in_X7_needTerm) (in_app (in_app (wsL_mem _ [600, 602, 15, 53] (by decide +kernel)) in_X7_needTyped) (in_app (in_app (wsL_mem _ [634, 635, 636, 57] (by decide +kernel)) in_X0_reads) (in_app (in_app (wsL_mem _ [678, 679, 680, 57] (by decide +kernel)) in_X0_place) (in_app (in_app (wsL_mem _ [682, 683, 684, 57] (by decide +kernel)) in_X0_keepSteps) (in_app (in_app (wsL_mem _ [686, 687, 688, 57] (by decide +kernel)) in_X0_visits) (in_app (wsL_law_x0) in_nil)))))))))
theorem mX7_read_o : ∀ w ∈ vsX7_read_o, w ∈ vsX7_read := fun w h => List.mem_cons_of_mem _ (List.mem_append_left _ h)
theorem mX7_read_wsX70 : ∀ w ∈ wsX70, w ∈ vsX7_read := fun w h => List.mem_cons_of_mem _ (List.mem_append_right _ (List.mem_append_left _ h))
theorem gX7_read_X7_needTerm : GoodIn vsX7_read (wsV RX7 75 RX7 yX7_needTerm vsX7_needTerm) := fun w h => ⟨List.mem_cons_of_mem _ (List.mem_append_right _ (List.mem_append_right _ (List.mem_append_left _ h))), gd_V gd_X7_needTerm w h⟩
theorem gX7_read_X7_needTyped : GoodIn vsX7_read (wsV RX7 108 RX7 yX7_needTyped vsX7_needTyped) := fun w h => ⟨List.mem_cons_of_mem _ (List.mem_append_right _ (List.mem_append_right _ (List.mem_append_right _ (List.mem_append_left _ h)))), gd_V gd_X7_needTyped w h⟩
theorem gX7_read_X0_reads : GoodIn vsX7_read (wsV RX7 133 RX0 yX0_reads vsX0_reads) := fun w h => ⟨List.mem_cons_of_mem _ (List.mem_append_right _ (List.mem_append_right _ (List.mem_append_right _ (List.mem_append_right _ (List.mem_append_left _ h))))), gd_V gd_X0_reads w h⟩
theorem gX7_read_X0_place : GoodIn vsX7_read (wsV RX7 137 RX0 yX0_place vsX0_place) := fun w h => ⟨List.mem_cons_of_mem _ (List.mem_append_right _ (List.mem_append_right _ (List.mem_append_right _ (List.mem_append_right _ (List.mem_append_right _ (List.mem_append_left _ h)))))), gd_V gd_X0_place w h⟩
theorem gX7_read_X0_keepSteps : GoodIn vsX7_read (wsV RX7 140 RX0 yX0_keepSteps vsX0_keepSteps) := fun w h => ⟨List.mem_cons_of_mem _ (List.mem_append_right _ (List.mem_append_right _ (List.mem_append_right _ (List.mem_append_right _ (List.mem_append_right _ (List.mem_append_right _ (List.mem_append_left _ h))))))), gd_V gd_X0_keepSteps w h⟩
theorem gX7_read_X0_visits : GoodIn vsX7_read (wsV RX7 143 RX0 yX0_visits vsX0_visits) := fun w h => ⟨List.mem_cons_of_mem _ (List.mem_append_right _ (List.mem_append_right _ (List.mem_append_right _ (List.mem_append_right _ (List.mem_append_right _ (List.mem_append_right _ (List.mem_append_right _ (List.mem_append_left _ h)))))))), gd_V gd_X0_visits w h⟩
theorem mX7_read_t63 : ∀ w ∈ (vx_at0 RX7 63 "java/lang/IllegalArgumentException" ["java/lang/RuntimeException", "java/lang/Exception"]).filter goodWord, w ∈ vsX7_read := fun w h => List.mem_cons_of_mem _ (List.mem_append_right _ (List.mem_append_right _ (List.mem_append_right _ (List.mem_append_right _ (List.mem_append_right _ (List.mem_append_right _ (List.mem_append_right _ (List.mem_append_right _ (List.mem_append_left _ h)))))))))
def vsX7_step_o : List Cond := [.fieldLink RX7 37 "GuardedGrammar" "reader" "LGuardedGrammar$Reader;", .classLink RX7 105 "java/lang/IndexOutOfBoundsException", .initialized "java/lang/IndexOutOfBoundsException"]
set_option maxRecDepth 20000 in
theorem vsX7_step_oin : ∀ w ∈ vsX7_step_o, w ∈ lw_tbl := wsL_mem _ [257, 476, 68] (by decide +kernel)
def vsX7_step : List Cond := .code yX7_step cX7_step 2 (some .int) :: (vsX7_step_o ++ (wsX70 ++ (wsV RX7 146 RX0 yX0_kept vsX0_kept ++ (wsV RX7 150 RX2 yX2_size vsX2_size ++ (wsV RX7 153 RX2 yX2_at vsX2_at ++ ((vx_at0 RX7 107 "java/lang/IndexOutOfBoundsException" ["java/lang/RuntimeException", "java/lang/Exception"]).filter goodWord ++ ([] : List Cond)))))))
theorem gd_X7_step : ∀ w ∈ vsX7_step, gdW w := gd_cons rfl (gd_app (gd_all (by decide +kernel)) (gd_app (gd_ws) (gd_app (gd_V gd_X0_kept) (gd_app (gd_V gd_X2_size) (gd_app (gd_V gd_X2_at) (gd_app (gd_f _) gd_nil))))))
set_option maxRecDepth 20000 in
theorem in_X7_step : ∀ w ∈ vsX7_step, w ∈ lw_tbl := in_cons (List.mem_of_getElem? (i := 696) (by decide +kernel)) (in_app (vsX7_step_oin) (in_app (wsX70_in) (in_app (in_app (wsL_mem _ [328, 329, 330, 57] (by decide +kernel)) in_X0_kept) (in_app (in_app (wsL_mem _ [332, 333, 334, 58] (by decide +kernel)) in_X2_size) (in_app (in_app (wsL_mem _ [697, 698, 699, 58] (by decide +kernel)) in_X2_at) (in_app (wsL_law_x3) in_nil))))))
theorem mX7_step_o : ∀ w ∈ vsX7_step_o, w ∈ vsX7_step := fun w h => List.mem_cons_of_mem _ (List.mem_append_left _ h)
theorem mX7_step_wsX70 : ∀ w ∈ wsX70, w ∈ vsX7_step := fun w h => List.mem_cons_of_mem _ (List.mem_append_right _ (List.mem_append_left _ h))
theorem gX7_step_X0_kept : GoodIn vsX7_step (wsV RX7 146 RX0 yX0_kept vsX0_kept) := fun w h => ⟨List.mem_cons_of_mem _ (List.mem_append_right _ (List.mem_append_right _ (List.mem_append_left _ h))), gd_V gd_X0_kept w h⟩
theorem gX7_step_X2_size : GoodIn vsX7_step (wsV RX7 150 RX2 yX2_size vsX2_size) := fun w h => ⟨List.mem_cons_of_mem _ (List.mem_append_right _ (List.mem_append_right _ (List.mem_append_right _ (List.mem_append_left _ h)))), gd_V gd_X2_size w h⟩
theorem gX7_step_X2_at : GoodIn vsX7_step (wsV RX7 153 RX2 yX2_at vsX2_at) := fun w h => ⟨List.mem_cons_of_mem _ (List.mem_append_right _ (List.mem_append_right _ (List.mem_append_right _ (List.mem_append_right _ (List.mem_append_left _ h))))), gd_V gd_X2_at w h⟩
theorem mX7_step_t107 : ∀ w ∈ (vx_at0 RX7 107 "java/lang/IndexOutOfBoundsException" ["java/lang/RuntimeException", "java/lang/Exception"]).filter goodWord, w ∈ vsX7_step := fun w h => List.mem_cons_of_mem _ (List.mem_append_right _ (List.mem_append_right _ (List.mem_append_right _ (List.mem_append_right _ (List.mem_append_right _ (List.mem_append_left _ h))))))
def vsX7_stopped_o : List Cond := [.fieldLink RX7 57 "GuardedGrammar" "stopped" "I"]
set_option maxRecDepth 20000 in
theorem vsX7_stopped_oin : ∀ w ∈ vsX7_stopped_o, w ∈ lw_tbl := wsL_mem _ [260] (by decide +kernel)
def vsX7_stopped : List Cond := .code yX7_stopped cX7_stopped 1 (some .int) :: (vsX7_stopped_o ++ (wsX70 ++ ([] : List Cond)))
theorem gd_X7_stopped : ∀ w ∈ vsX7_stopped, gdW w := gd_cons rfl (gd_app (gd_all (by decide +kernel)) (gd_app (gd_ws) gd_nil))
set_option maxRecDepth 20000 in
theorem in_X7_stopped : ∀ w ∈ vsX7_stopped, w ∈ lw_tbl := in_cons (List.mem_of_getElem? (i := 323) (by decide +kernel)) (in_app (vsX7_stopped_oin) (in_app (wsX70_in) in_nil))
theorem mX7_stopped_o : ∀ w ∈ vsX7_stopped_o, w ∈ vsX7_stopped := fun w h => List.mem_cons_of_mem _ (List.mem_append_left _ h)
theorem mX7_stopped_wsX70 : ∀ w ∈ wsX70, w ∈ vsX7_stopped := fun w h => List.mem_cons_of_mem _ (List.mem_append_right _ (List.mem_append_left _ h))
def vsX7_terms_o : List Cond := [.fieldLink RX7 12 "GuardedGrammar" "terms" "LGuardedGrammar$Terms;"]
set_option maxRecDepth 20000 in
theorem vsX7_terms_oin : ∀ w ∈ vsX7_terms_o, w ∈ lw_tbl := wsL_mem _ [254] (by decide +kernel)
def vsX7_terms : List Cond := .code yX7_terms cX7_terms 1 (some .int) :: (vsX7_terms_o ++ (wsX70 ++ (wsV RX7 95 RX4 yX4_size vsX4_size ++ ([] : List Cond))))
theorem gd_X7_terms : ∀ w ∈ vsX7_terms, gdW w := gd_cons rfl (gd_app (gd_all (by decide +kernel)) (gd_app (gd_ws) (gd_app (gd_V gd_X4_size) gd_nil)))
set_option maxRecDepth 20000 in
theorem in_X7_terms : ∀ w ∈ vsX7_terms, w ∈ lw_tbl := in_cons (List.mem_of_getElem? (i := 287) (by decide +kernel)) (in_app (vsX7_terms_oin) (in_app (wsX70_in) (in_app (in_app (wsL_mem _ [288, 289, 290, 54] (by decide +kernel)) in_X4_size) in_nil)))
theorem mX7_terms_o : ∀ w ∈ vsX7_terms_o, w ∈ vsX7_terms := fun w h => List.mem_cons_of_mem _ (List.mem_append_left _ h)
theorem mX7_terms_wsX70 : ∀ w ∈ wsX70, w ∈ vsX7_terms := fun w h => List.mem_cons_of_mem _ (List.mem_append_right _ (List.mem_append_left _ h))
theorem gX7_terms_X4_size : GoodIn vsX7_terms (wsV RX7 95 RX4 yX4_size vsX4_size) := fun w h => ⟨List.mem_cons_of_mem _ (List.mem_append_right _ (List.mem_append_right _ (List.mem_append_left _ h))), gd_V gd_X4_size w h⟩
def vsX7_trace_o : List Cond := [.fieldLink RX7 37 "GuardedGrammar" "reader" "LGuardedGrammar$Reader;"]
set_option maxRecDepth 20000 in
theorem vsX7_trace_oin : ∀ w ∈ vsX7_trace_o, w ∈ lw_tbl := wsL_mem _ [257] (by decide +kernel)
def vsX7_trace : List Cond := .code yX7_trace cX7_trace 1 (some .int) :: (vsX7_trace_o ++ (wsX70 ++ (wsV RX7 146 RX0 yX0_kept vsX0_kept ++ (wsV RX7 150 RX2 yX2_size vsX2_size ++ ([] : List Cond)))))
theorem gd_X7_trace : ∀ w ∈ vsX7_trace, gdW w := gd_cons rfl (gd_app (gd_all (by decide +kernel)) (gd_app (gd_ws) (gd_app (gd_V gd_X0_kept) (gd_app (gd_V gd_X2_size) gd_nil))))
set_option maxRecDepth 20000 in
theorem in_X7_trace : ∀ w ∈ vsX7_trace, w ∈ lw_tbl := in_cons (List.mem_of_getElem? (i := 327) (by decide +kernel)) (in_app (vsX7_trace_oin) (in_app (wsX70_in) (in_app (in_app (wsL_mem _ [328, 329, 330, 57] (by decide +kernel)) in_X0_kept) (in_app (in_app (wsL_mem _ [332, 333, 334, 58] (by decide +kernel)) in_X2_size) in_nil))))
theorem mX7_trace_o : ∀ w ∈ vsX7_trace_o, w ∈ vsX7_trace := fun w h => List.mem_cons_of_mem _ (List.mem_append_left _ h)
theorem mX7_trace_wsX70 : ∀ w ∈ wsX70, w ∈ vsX7_trace := fun w h => List.mem_cons_of_mem _ (List.mem_append_right _ (List.mem_append_left _ h))
theorem gX7_trace_X0_kept : GoodIn vsX7_trace (wsV RX7 146 RX0 yX0_kept vsX0_kept) := fun w h => ⟨List.mem_cons_of_mem _ (List.mem_append_right _ (List.mem_append_right _ (List.mem_append_left _ h))), gd_V gd_X0_kept w h⟩
theorem gX7_trace_X2_size : GoodIn vsX7_trace (wsV RX7 150 RX2 yX2_size vsX2_size) := fun w h => ⟨List.mem_cons_of_mem _ (List.mem_append_right _ (List.mem_append_right _ (List.mem_append_right _ (List.mem_append_left _ h)))), gd_V gd_X2_size w h⟩
def vsX7_type_o : List Cond := [.classLink RX7 105 "java/lang/IndexOutOfBoundsException", .initialized "java/lang/IndexOutOfBoundsException", .fieldLink RX7 21 "GuardedGrammar" "typing" "LGuardedGrammar$Typing;"]
set_option maxRecDepth 20000 in
theorem vsX7_type_oin : ∀ w ∈ vsX7_type_o, w ∈ lw_tbl := wsL_mem _ [476, 68, 255] (by decide +kernel)
def vsX7_type : List Cond := .code yX7_type cX7_type 3 (some .int) :: (vsX7_type_o ++ (wsX70 ++ (wsV RX7 75 RX7 yX7_needTerm vsX7_needTerm ++ (wsV RX7 108 RX7 yX7_needTyped vsX7_needTyped ++ (wsV RX7 111 RX5 yX5_isNullable vsX5_isNullable ++ (wsV RX7 114 RX5 yX5_firstOf vsX5_firstOf ++ (wsV RX7 117 RX5 yX5_afterOf vsX5_afterOf ++ ((vx_at0 RX7 107 "java/lang/IndexOutOfBoundsException" ["java/lang/RuntimeException", "java/lang/Exception"]).filter goodWord ++ ([] : List Cond)))))))))
theorem gd_X7_type : ∀ w ∈ vsX7_type, gdW w := gd_cons rfl (gd_app (gd_all (by decide +kernel)) (gd_app (gd_ws) (gd_app (gd_V gd_X7_needTerm) (gd_app (gd_V gd_X7_needTyped) (gd_app (gd_V gd_X5_isNullable) (gd_app (gd_V gd_X5_firstOf) (gd_app (gd_V gd_X5_afterOf) (gd_app (gd_f _) gd_nil))))))))
set_option maxRecDepth 20000 in
theorem in_X7_type : ∀ w ∈ vsX7_type, w ∈ lw_tbl := in_cons (List.mem_of_getElem? (i := 599) (by decide +kernel)) (in_app (vsX7_type_oin) (in_app (wsX70_in) (in_app (in_app (wsL_mem _ [468, 470, 4, 53] (by decide +kernel)) in_X7_needTerm) (in_app (in_app (wsL_mem _ [600, 602, 15, 53] (by decide +kernel)) in_X7_needTyped) (in_app (in_app (wsL_mem _ [604, 605, 606, 55] (by decide +kernel)) in_X5_isNullable) (in_app (in_app (wsL_mem _ [608, 609, 610, 55] (by decide +kernel)) in_X5_firstOf) (in_app (in_app (wsL_mem _ [612, 613, 614, 55] (by decide +kernel)) in_X5_afterOf) (in_app (wsL_law_x3) in_nil))))))))
theorem mX7_type_o : ∀ w ∈ vsX7_type_o, w ∈ vsX7_type := fun w h => List.mem_cons_of_mem _ (List.mem_append_left _ h)
theorem mX7_type_wsX70 : ∀ w ∈ wsX70, w ∈ vsX7_type := fun w h => List.mem_cons_of_mem _ (List.mem_append_right _ (List.mem_append_left _ h))
theorem gX7_type_X7_needTerm : GoodIn vsX7_type (wsV RX7 75 RX7 yX7_needTerm vsX7_needTerm) := fun w h => ⟨List.mem_cons_of_mem _ (List.mem_append_right _ (List.mem_append_right _ (List.mem_append_left _ h))), gd_V gd_X7_needTerm w h⟩
theorem gX7_type_X7_needTyped : GoodIn vsX7_type (wsV RX7 108 RX7 yX7_needTyped vsX7_needTyped) := fun w h => ⟨List.mem_cons_of_mem _ (List.mem_append_right _ (List.mem_append_right _ (List.mem_append_right _ (List.mem_append_left _ h)))), gd_V gd_X7_needTyped w h⟩
theorem gX7_type_X5_isNullable : GoodIn vsX7_type (wsV RX7 111 RX5 yX5_isNullable vsX5_isNullable) := fun w h => ⟨List.mem_cons_of_mem _ (List.mem_append_right _ (List.mem_append_right _ (List.mem_append_right _ (List.mem_append_right _ (List.mem_append_left _ h))))), gd_V gd_X5_isNullable w h⟩
theorem gX7_type_X5_firstOf : GoodIn vsX7_type (wsV RX7 114 RX5 yX5_firstOf vsX5_firstOf) := fun w h => ⟨List.mem_cons_of_mem _ (List.mem_append_right _ (List.mem_append_right _ (List.mem_append_right _ (List.mem_append_right _ (List.mem_append_right _ (List.mem_append_left _ h)))))), gd_V gd_X5_firstOf w h⟩
theorem gX7_type_X5_afterOf : GoodIn vsX7_type (wsV RX7 117 RX5 yX5_afterOf vsX5_afterOf) := fun w h => ⟨List.mem_cons_of_mem _ (List.mem_append_right _ (List.mem_append_right _ (List.mem_append_right _ (List.mem_append_right _ (List.mem_append_right _ (List.mem_append_right _ (List.mem_append_left _ h))))))), gd_V gd_X5_afterOf w h⟩
theorem mX7_type_t107 : ∀ w ∈ (vx_at0 RX7 107 "java/lang/IndexOutOfBoundsException" ["java/lang/RuntimeException", "java/lang/Exception"]).filter goodWord, w ∈ vsX7_type := fun w h => List.mem_cons_of_mem _ (List.mem_append_right _ (List.mem_append_right _ (List.mem_append_right _ (List.mem_append_right _ (List.mem_append_right _ (List.mem_append_right _ (List.mem_append_right _ (List.mem_append_left _ h))))))))
def vsX7_variable_o : List Cond := [.fieldLink RX7 12 "GuardedGrammar" "terms" "LGuardedGrammar$Terms;"]
set_option maxRecDepth 20000 in
theorem vsX7_variable_oin : ∀ w ∈ vsX7_variable_o, w ∈ lw_tbl := wsL_mem _ [254] (by decide +kernel)
def vsX7_variable : List Cond := .code yX7_variable cX7_variable 2 (some .int) :: (vsX7_variable_o ++ (wsX70 ++ (wsV RX7 71 RX7 yX7_needVariable vsX7_needVariable ++ (wsV RX7 64 RX7 yX7_needRoom vsX7_needRoom ++ (wsV RX7 67 RX4 yX4_add vsX4_add ++ ([] : List Cond))))))
theorem gd_X7_variable : ∀ w ∈ vsX7_variable, gdW w := gd_cons rfl (gd_app (gd_all (by decide +kernel)) (gd_app (gd_ws) (gd_app (gd_V gd_X7_needVariable) (gd_app (gd_V gd_X7_needRoom) (gd_app (gd_V gd_X4_add) gd_nil)))))
set_option maxRecDepth 20000 in
theorem in_X7_variable : ∀ w ∈ vsX7_variable, w ∈ lw_tbl := in_cons (List.mem_of_getElem? (i := 454) (by decide +kernel)) (in_app (vsX7_variable_oin) (in_app (wsX70_in) (in_app (in_app (wsL_mem _ [455, 457, 3, 53] (by decide +kernel)) in_X7_needVariable) (in_app (in_app (wsL_mem _ [410, 412, 1, 53] (by decide +kernel)) in_X7_needRoom) (in_app (in_app (wsL_mem _ [433, 434, 435, 54] (by decide +kernel)) in_X4_add) in_nil)))))
theorem mX7_variable_o : ∀ w ∈ vsX7_variable_o, w ∈ vsX7_variable := fun w h => List.mem_cons_of_mem _ (List.mem_append_left _ h)
theorem mX7_variable_wsX70 : ∀ w ∈ wsX70, w ∈ vsX7_variable := fun w h => List.mem_cons_of_mem _ (List.mem_append_right _ (List.mem_append_left _ h))
theorem gX7_variable_X7_needVariable : GoodIn vsX7_variable (wsV RX7 71 RX7 yX7_needVariable vsX7_needVariable) := fun w h => ⟨List.mem_cons_of_mem _ (List.mem_append_right _ (List.mem_append_right _ (List.mem_append_left _ h))), gd_V gd_X7_needVariable w h⟩
theorem gX7_variable_X7_needRoom : GoodIn vsX7_variable (wsV RX7 64 RX7 yX7_needRoom vsX7_needRoom) := fun w h => ⟨List.mem_cons_of_mem _ (List.mem_append_right _ (List.mem_append_right _ (List.mem_append_right _ (List.mem_append_left _ h)))), gd_V gd_X7_needRoom w h⟩
theorem gX7_variable_X4_add : GoodIn vsX7_variable (wsV RX7 67 RX4 yX4_add vsX4_add) := fun w h => ⟨List.mem_cons_of_mem _ (List.mem_append_right _ (List.mem_append_right _ (List.mem_append_right _ (List.mem_append_right _ (List.mem_append_left _ h))))), gd_V gd_X4_add w h⟩
def vsX8_add_o : List Cond := [.fieldLink RX8 7 "GuardedGrammarModel" "kind" "[I", .fieldLink RX8 76 "GuardedGrammarModel" "terms" "I", .fieldLink RX8 13 "GuardedGrammarModel" "sign" "[I", .fieldLink RX8 16 "GuardedGrammarModel" "one" "[I", .fieldLink RX8 19 "GuardedGrammarModel" "two" "[I", .fieldLink RX8 22 "GuardedGrammarModel" "whole" "[I", .fieldLink RX8 25 "GuardedGrammarModel" "knots" "[I"]
set_option maxRecDepth 20000 in
theorem vsX8_add_oin : ∀ w ∈ vsX8_add_o, w ∈ lw_tbl := wsL_mem _ [827, 826, 828, 829, 830, 831, 832] (by decide +kernel)
def vsX8_add : List Cond := .code yX8_add cX8_add 6 (some .int) :: (vsX8_add_o ++ (wsX80 ++ ([] : List Cond)))
theorem gd_X8_add : ∀ w ∈ vsX8_add, gdW w := gd_cons rfl (gd_app (gd_all (by decide +kernel)) (gd_app (gd_ws) gd_nil))
set_option maxRecDepth 20000 in
theorem in_X8_add : ∀ w ∈ vsX8_add, w ∈ lw_tbl := in_cons (List.mem_of_getElem? (i := 921) (by decide +kernel)) (in_app (vsX8_add_oin) (in_app (wsX80_in) in_nil))
theorem mX8_add_o : ∀ w ∈ vsX8_add_o, w ∈ vsX8_add := fun w h => List.mem_cons_of_mem _ (List.mem_append_left _ h)
theorem mX8_add_wsX80 : ∀ w ∈ wsX80, w ∈ vsX8_add := fun w h => List.mem_cons_of_mem _ (List.mem_append_right _ (List.mem_append_left _ h))
def vsX8_back_o : List Cond := [.fieldLink RX8 126 "GuardedGrammarModel" "fresh" "I", .fieldLink RX8 151 "GuardedGrammarModel" "saved" "I", .fieldLink RX8 116 "GuardedGrammarModel" "open" "I", .fieldLink RX8 57 "GuardedGrammarModel" "todo" "[I", .fieldLink RX8 60 "GuardedGrammarModel" "todoSaved" "[I"]
set_option maxRecDepth 20000 in
theorem vsX8_back_oin : ∀ w ∈ vsX8_back_o, w ∈ lw_tbl := wsL_mem _ [843, 848, 846, 847, 849] (by decide +kernel)
def vsX8_back : List Cond := .code yX8_back cX8_back 2 none :: (vsX8_back_o ++ (wsX80 ++ ([] : List Cond)))
theorem gd_X8_back : ∀ w ∈ vsX8_back, gdW w := gd_cons rfl (gd_app (gd_all (by decide +kernel)) (gd_app (gd_ws) gd_nil))
set_option maxRecDepth 20000 in
theorem in_X8_back : ∀ w ∈ vsX8_back, w ∈ lw_tbl := in_cons (List.mem_of_getElem? (i := 1065) (by decide +kernel)) (in_app (vsX8_back_oin) (in_app (wsX80_in) in_nil))
theorem mX8_back_o : ∀ w ∈ vsX8_back_o, w ∈ vsX8_back := fun w h => List.mem_cons_of_mem _ (List.mem_append_left _ h)
theorem mX8_back_wsX80 : ∀ w ∈ wsX80, w ∈ vsX8_back := fun w h => List.mem_cons_of_mem _ (List.mem_append_right _ (List.mem_append_left _ h))
def vsX8_beginAt_o : List Cond := [.fieldLink RX8 57 "GuardedGrammarModel" "todo" "[I", .fieldLink RX8 116 "GuardedGrammarModel" "open" "I", .fieldLink RX8 119 "GuardedGrammarModel" "visited" "I", .fieldLink RX8 126 "GuardedGrammarModel" "fresh" "I"]
set_option maxRecDepth 20000 in
theorem vsX8_beginAt_oin : ∀ w ∈ vsX8_beginAt_o, w ∈ lw_tbl := wsL_mem _ [847, 846, 845, 843] (by decide +kernel)
def vsX8_beginAt : List Cond := .code yX8_beginAt cX8_beginAt 2 none :: (vsX8_beginAt_o ++ (wsX80 ++ ([] : List Cond)))
theorem gd_X8_beginAt : ∀ w ∈ vsX8_beginAt, gdW w := gd_cons rfl (gd_app (gd_all (by decide +kernel)) (gd_app (gd_ws) gd_nil))
set_option maxRecDepth 20000 in
theorem in_X8_beginAt : ∀ w ∈ vsX8_beginAt, w ∈ lw_tbl := in_cons (List.mem_of_getElem? (i := 1009) (by decide +kernel)) (in_app (vsX8_beginAt_oin) (in_app (wsX80_in) in_nil))
theorem mX8_beginAt_o : ∀ w ∈ vsX8_beginAt_o, w ∈ vsX8_beginAt := fun w h => List.mem_cons_of_mem _ (List.mem_append_left _ h)
theorem mX8_beginAt_wsX80 : ∀ w ∈ wsX80, w ∈ vsX8_beginAt := fun w h => List.mem_cons_of_mem _ (List.mem_append_right _ (List.mem_append_left _ h))
def vsX8_choice_o : List Cond := [.fieldLink RX8 16 "GuardedGrammarModel" "one" "[I", .fieldLink RX8 19 "GuardedGrammarModel" "two" "[I", .fieldLink RX8 32 "GuardedGrammarModel" "first" "[I", .fieldLink RX8 28 "GuardedGrammarModel" "nullable" "[Z"]
set_option maxRecDepth 20000 in
theorem vsX8_choice_oin : ∀ w ∈ vsX8_choice_o, w ∈ lw_tbl := wsL_mem _ [829, 830, 834, 833] (by decide +kernel)
def vsX8_choice : List Cond := .code yX8_choice cX8_choice 5 (some .int) :: (vsX8_choice_o ++ (wsX80 ++ ([] : List Cond)))
theorem gd_X8_choice : ∀ w ∈ vsX8_choice, gdW w := gd_cons rfl (gd_app (gd_all (by decide +kernel)) (gd_app (gd_ws) gd_nil))
set_option maxRecDepth 20000 in
theorem in_X8_choice : ∀ w ∈ vsX8_choice, w ∈ lw_tbl := in_cons (List.mem_of_getElem? (i := 1017) (by decide +kernel)) (in_app (vsX8_choice_oin) (in_app (wsX80_in) in_nil))
theorem mX8_choice_o : ∀ w ∈ vsX8_choice_o, w ∈ vsX8_choice := fun w h => List.mem_cons_of_mem _ (List.mem_append_left _ h)
theorem mX8_choice_wsX80 : ∀ w ∈ wsX80, w ∈ vsX8_choice := fun w h => List.mem_cons_of_mem _ (List.mem_append_right _ (List.mem_append_left _ h))
def vsX8_clear_o : List Cond := [.fieldLink RX8 73 "GuardedGrammarModel" "thrown" "I", .fieldLink RX8 76 "GuardedGrammarModel" "terms" "I"]
set_option maxRecDepth 20000 in
theorem vsX8_clear_oin : ∀ w ∈ vsX8_clear_o, w ∈ lw_tbl := wsL_mem _ [825, 826] (by decide +kernel)
def vsX8_clear : List Cond := .code yX8_clear cX8_clear 1 none :: (vsX8_clear_o ++ (wsX80 ++ ([] : List Cond)))
theorem gd_X8_clear : ∀ w ∈ vsX8_clear, gdW w := gd_cons rfl (gd_app (gd_all (by decide +kernel)) (gd_app (gd_ws) gd_nil))
set_option maxRecDepth 20000 in
theorem in_X8_clear : ∀ w ∈ vsX8_clear, w ∈ lw_tbl := in_cons (List.mem_of_getElem? (i := 945) (by decide +kernel)) (in_app (vsX8_clear_oin) (in_app (wsX80_in) in_nil))
theorem mX8_clear_o : ∀ w ∈ vsX8_clear_o, w ∈ vsX8_clear := fun w h => List.mem_cons_of_mem _ (List.mem_append_left _ h)
theorem mX8_clear_wsX80 : ∀ w ∈ wsX80, w ∈ vsX8_clear := fun w h => List.mem_cons_of_mem _ (List.mem_append_right _ (List.mem_append_left _ h))
def vsX8_isTerm_o : List Cond := [.fieldLink RX8 76 "GuardedGrammarModel" "terms" "I"]
set_option maxRecDepth 20000 in
theorem vsX8_isTerm_oin : ∀ w ∈ vsX8_isTerm_o, w ∈ lw_tbl := wsL_mem _ [826] (by decide +kernel)
def vsX8_isTerm : List Cond := .code yX8_isTerm cX8_isTerm 2 (some .boolean) :: (vsX8_isTerm_o ++ (wsX80 ++ ([] : List Cond)))
theorem gd_X8_isTerm : ∀ w ∈ vsX8_isTerm, gdW w := gd_cons rfl (gd_app (gd_all (by decide +kernel)) (gd_app (gd_ws) gd_nil))
set_option maxRecDepth 20000 in
theorem in_X8_isTerm : ∀ w ∈ vsX8_isTerm, w ∈ lw_tbl := in_cons (List.mem_of_getElem? (i := 933) (by decide +kernel)) (in_app (vsX8_isTerm_oin) (in_app (wsX80_in) in_nil))
theorem mX8_isTerm_o : ∀ w ∈ vsX8_isTerm_o, w ∈ vsX8_isTerm := fun w h => List.mem_cons_of_mem _ (List.mem_append_left _ h)
theorem mX8_isTerm_wsX80 : ∀ w ∈ wsX80, w ∈ vsX8_isTerm := fun w h => List.mem_cons_of_mem _ (List.mem_append_right _ (List.mem_append_left _ h))
def vsX8_gather_o : List Cond := [.fieldLink RX8 76 "GuardedGrammarModel" "terms" "I", .fieldLink RX8 41 "GuardedGrammarModel" "binder" "[I", .fieldLink RX8 22 "GuardedGrammarModel" "whole" "[I", .fieldLink RX8 7 "GuardedGrammarModel" "kind" "[I", .fieldLink RX8 13 "GuardedGrammarModel" "sign" "[I", .fieldLink RX8 38 "GuardedGrammarModel" "inside" "[Z", .fieldLink RX8 28 "GuardedGrammarModel" "nullable" "[Z", .fieldLink RX8 32 "GuardedGrammarModel" "first" "[I", .fieldLink RX8 35 "GuardedGrammarModel" "after" "[I"]
set_option maxRecDepth 20000 in
theorem vsX8_gather_oin : ∀ w ∈ vsX8_gather_o, w ∈ lw_tbl := wsL_mem _ [826, 837, 831, 827, 828, 836, 833, 834, 835] (by decide +kernel)
def vsX8_gather : List Cond := .code yX8_gather cX8_gather 4 none :: (vsX8_gather_o ++ (wsX80 ++ ([] : List Cond)))
theorem gd_X8_gather : ∀ w ∈ vsX8_gather, gdW w := gd_cons rfl (gd_app (gd_all (by decide +kernel)) (gd_app (gd_ws) gd_nil))
set_option maxRecDepth 20000 in
theorem in_X8_gather : ∀ w ∈ vsX8_gather, w ∈ lw_tbl := in_cons (List.mem_of_getElem? (i := 965) (by decide +kernel)) (in_app (vsX8_gather_oin) (in_app (wsX80_in) in_nil))
theorem mX8_gather_o : ∀ w ∈ vsX8_gather_o, w ∈ vsX8_gather := fun w h => List.mem_cons_of_mem _ (List.mem_append_left _ h)
theorem mX8_gather_wsX80 : ∀ w ∈ wsX80, w ∈ vsX8_gather := fun w h => List.mem_cons_of_mem _ (List.mem_append_right _ (List.mem_append_left _ h))
def vsX8_grow_o : List Cond := [.fieldLink RX8 7 "GuardedGrammarModel" "kind" "[I", .fieldLink RX8 13 "GuardedGrammarModel" "sign" "[I", .fieldLink RX8 16 "GuardedGrammarModel" "one" "[I", .fieldLink RX8 19 "GuardedGrammarModel" "two" "[I", .fieldLink RX8 28 "GuardedGrammarModel" "nullable" "[Z", .fieldLink RX8 32 "GuardedGrammarModel" "first" "[I", .fieldLink RX8 35 "GuardedGrammarModel" "after" "[I", .fieldLink RX8 41 "GuardedGrammarModel" "binder" "[I"]
set_option maxRecDepth 20000 in
theorem vsX8_grow_oin : ∀ w ∈ vsX8_grow_o, w ∈ lw_tbl := wsL_mem _ [827, 828, 829, 830, 833, 834, 835, 837] (by decide +kernel)
def vsX8_grow : List Cond := .code yX8_grow cX8_grow 8 (some .boolean) :: (vsX8_grow_o ++ (wsX80 ++ ([] : List Cond)))
theorem gd_X8_grow : ∀ w ∈ vsX8_grow, gdW w := gd_cons rfl (gd_app (gd_all (by decide +kernel)) (gd_app (gd_ws) gd_nil))
set_option maxRecDepth 20000 in
theorem in_X8_grow : ∀ w ∈ vsX8_grow, w ∈ lw_tbl := in_cons (List.mem_of_getElem? (i := 969) (by decide +kernel)) (in_app (vsX8_grow_oin) (in_app (wsX80_in) in_nil))
theorem mX8_grow_o : ∀ w ∈ vsX8_grow_o, w ∈ vsX8_grow := fun w h => List.mem_cons_of_mem _ (List.mem_append_left _ h)
theorem mX8_grow_wsX80 : ∀ w ∈ wsX80, w ∈ vsX8_grow := fun w h => List.mem_cons_of_mem _ (List.mem_append_right _ (List.mem_append_left _ h))
def vsX8_typeAll_o : List Cond := [.fieldLink RX8 76 "GuardedGrammarModel" "terms" "I", .fieldLink RX8 38 "GuardedGrammarModel" "inside" "[Z"]
set_option maxRecDepth 20000 in
theorem vsX8_typeAll_oin : ∀ w ∈ vsX8_typeAll_o, w ∈ lw_tbl := wsL_mem _ [826, 836] (by decide +kernel)
def vsX8_typeAll : List Cond := .code yX8_typeAll cX8_typeAll 4 none :: (vsX8_typeAll_o ++ (wsX80 ++ (wsV RX8 90 RX8 yX8_gather vsX8_gather ++ (wsV RX8 94 RX8 yX8_grow vsX8_grow ++ ([] : List Cond)))))
theorem gd_X8_typeAll : ∀ w ∈ vsX8_typeAll, gdW w := gd_cons rfl (gd_app (gd_all (by decide +kernel)) (gd_app (gd_ws) (gd_app (gd_V gd_X8_gather) (gd_app (gd_V gd_X8_grow) gd_nil))))
set_option maxRecDepth 20000 in
theorem in_X8_typeAll : ∀ w ∈ vsX8_typeAll, w ∈ lw_tbl := in_cons (List.mem_of_getElem? (i := 961) (by decide +kernel)) (in_app (vsX8_typeAll_oin) (in_app (wsX80_in) (in_app (in_app (wsL_mem _ [962, 964, 37, 61] (by decide +kernel)) in_X8_gather) (in_app (in_app (wsL_mem _ [966, 968, 38, 61] (by decide +kernel)) in_X8_grow) in_nil))))
theorem mX8_typeAll_o : ∀ w ∈ vsX8_typeAll_o, w ∈ vsX8_typeAll := fun w h => List.mem_cons_of_mem _ (List.mem_append_left _ h)
theorem mX8_typeAll_wsX80 : ∀ w ∈ wsX80, w ∈ vsX8_typeAll := fun w h => List.mem_cons_of_mem _ (List.mem_append_right _ (List.mem_append_left _ h))
theorem gX8_typeAll_X8_gather : GoodIn vsX8_typeAll (wsV RX8 90 RX8 yX8_gather vsX8_gather) := fun w h => ⟨List.mem_cons_of_mem _ (List.mem_append_right _ (List.mem_append_right _ (List.mem_append_left _ h))), gd_V gd_X8_gather w h⟩
theorem gX8_typeAll_X8_grow : GoodIn vsX8_typeAll (wsV RX8 94 RX8 yX8_grow vsX8_grow) := fun w h => ⟨List.mem_cons_of_mem _ (List.mem_append_right _ (List.mem_append_right _ (List.mem_append_right _ (List.mem_append_left _ h)))), gd_V gd_X8_grow w h⟩
def vsX8_leftmost_o : List Cond := [.fieldLink RX8 16 "GuardedGrammarModel" "one" "[I"]
set_option maxRecDepth 20000 in
theorem vsX8_leftmost_oin : ∀ w ∈ vsX8_leftmost_o, w ∈ lw_tbl := wsL_mem _ [829] (by decide +kernel)
def vsX8_leftmost : List Cond := .code yX8_leftmost cX8_leftmost 3 (some .int) :: (vsX8_leftmost_o ++ (wsX80 ++ ([] : List Cond)))
theorem gd_X8_leftmost : ∀ w ∈ vsX8_leftmost, gdW w := gd_cons rfl (gd_app (gd_all (by decide +kernel)) (gd_app (gd_ws) gd_nil))
set_option maxRecDepth 20000 in
theorem in_X8_leftmost : ∀ w ∈ vsX8_leftmost, w ∈ lw_tbl := in_cons (List.mem_of_getElem? (i := 973) (by decide +kernel)) (in_app (vsX8_leftmost_oin) (in_app (wsX80_in) in_nil))
theorem mX8_leftmost_o : ∀ w ∈ vsX8_leftmost_o, w ∈ vsX8_leftmost := fun w h => List.mem_cons_of_mem _ (List.mem_append_left _ h)
theorem mX8_leftmost_wsX80 : ∀ w ∈ wsX80, w ∈ vsX8_leftmost := fun w h => List.mem_cons_of_mem _ (List.mem_append_right _ (List.mem_append_left _ h))
def vsX8_isGuarded_o : List Cond := [.fieldLink RX8 41 "GuardedGrammarModel" "binder" "[I", .fieldLink RX8 22 "GuardedGrammarModel" "whole" "[I", .fieldLink RX8 7 "GuardedGrammarModel" "kind" "[I", .fieldLink RX8 19 "GuardedGrammarModel" "two" "[I"]
set_option maxRecDepth 20000 in
theorem vsX8_isGuarded_oin : ∀ w ∈ vsX8_isGuarded_o, w ∈ lw_tbl := wsL_mem _ [837, 831, 827, 830] (by decide +kernel)
def vsX8_isGuarded : List Cond := .code yX8_isGuarded cX8_isGuarded 5 (some .boolean) :: (vsX8_isGuarded_o ++ (wsX80 ++ ([] : List Cond)))
theorem gd_X8_isGuarded : ∀ w ∈ vsX8_isGuarded, gdW w := gd_cons rfl (gd_app (gd_all (by decide +kernel)) (gd_app (gd_ws) gd_nil))
set_option maxRecDepth 20000 in
theorem in_X8_isGuarded : ∀ w ∈ vsX8_isGuarded, w ∈ lw_tbl := in_cons (List.mem_of_getElem? (i := 981) (by decide +kernel)) (in_app (vsX8_isGuarded_oin) (in_app (wsX80_in) in_nil))
theorem mX8_isGuarded_o : ∀ w ∈ vsX8_isGuarded_o, w ∈ vsX8_isGuarded := fun w h => List.mem_cons_of_mem _ (List.mem_append_left _ h)
theorem mX8_isGuarded_wsX80 : ∀ w ∈ wsX80, w ∈ vsX8_isGuarded := fun w h => List.mem_cons_of_mem _ (List.mem_append_right _ (List.mem_append_left _ h))
def vsX8_faultAt_o : List Cond := [.fieldLink RX8 16 "GuardedGrammarModel" "one" "[I", .fieldLink RX8 19 "GuardedGrammarModel" "two" "[I", .fieldLink RX8 7 "GuardedGrammarModel" "kind" "[I", .fieldLink RX8 41 "GuardedGrammarModel" "binder" "[I", .fieldLink RX8 28 "GuardedGrammarModel" "nullable" "[Z", .fieldLink RX8 35 "GuardedGrammarModel" "after" "[I", .fieldLink RX8 32 "GuardedGrammarModel" "first" "[I"]
set_option maxRecDepth 20000 in
theorem vsX8_faultAt_oin : ∀ w ∈ vsX8_faultAt_o, w ∈ lw_tbl := wsL_mem _ [829, 830, 827, 837, 833, 835, 834] (by decide +kernel)
def vsX8_faultAt : List Cond := .code yX8_faultAt cX8_faultAt 4 (some .int) :: (vsX8_faultAt_o ++ (wsX80 ++ (wsV RX8 97 RX8 yX8_isGuarded vsX8_isGuarded ++ ([] : List Cond))))
theorem gd_X8_faultAt : ∀ w ∈ vsX8_faultAt, gdW w := gd_cons rfl (gd_app (gd_all (by decide +kernel)) (gd_app (gd_ws) (gd_app (gd_V gd_X8_isGuarded) gd_nil)))
set_option maxRecDepth 20000 in
theorem in_X8_faultAt : ∀ w ∈ vsX8_faultAt, w ∈ lw_tbl := in_cons (List.mem_of_getElem? (i := 977) (by decide +kernel)) (in_app (vsX8_faultAt_oin) (in_app (wsX80_in) (in_app (in_app (wsL_mem _ [978, 980, 41, 61] (by decide +kernel)) in_X8_isGuarded) in_nil)))
theorem mX8_faultAt_o : ∀ w ∈ vsX8_faultAt_o, w ∈ vsX8_faultAt := fun w h => List.mem_cons_of_mem _ (List.mem_append_left _ h)
theorem mX8_faultAt_wsX80 : ∀ w ∈ wsX80, w ∈ vsX8_faultAt := fun w h => List.mem_cons_of_mem _ (List.mem_append_right _ (List.mem_append_left _ h))
theorem gX8_faultAt_X8_isGuarded : GoodIn vsX8_faultAt (wsV RX8 97 RX8 yX8_isGuarded vsX8_isGuarded) := fun w h => ⟨List.mem_cons_of_mem _ (List.mem_append_right _ (List.mem_append_right _ (List.mem_append_left _ h))), gd_V gd_X8_isGuarded w h⟩
def vsX8_faultOf_o : List Cond := [.fieldLink RX8 22 "GuardedGrammarModel" "whole" "[I", .fieldLink RX8 19 "GuardedGrammarModel" "two" "[I"]
set_option maxRecDepth 20000 in
theorem vsX8_faultOf_oin : ∀ w ∈ vsX8_faultOf_o, w ∈ lw_tbl := wsL_mem _ [831, 830] (by decide +kernel)
def vsX8_faultOf : List Cond := .code yX8_faultOf cX8_faultOf 4 (some .int) :: (vsX8_faultOf_o ++ (wsX80 ++ (wsV RX8 100 RX8 yX8_typeAll vsX8_typeAll ++ (wsV RX8 103 RX8 yX8_leftmost vsX8_leftmost ++ (wsV RX8 107 RX8 yX8_faultAt vsX8_faultAt ++ ([] : List Cond))))))
theorem gd_X8_faultOf : ∀ w ∈ vsX8_faultOf, gdW w := gd_cons rfl (gd_app (gd_all (by decide +kernel)) (gd_app (gd_ws) (gd_app (gd_V gd_X8_typeAll) (gd_app (gd_V gd_X8_leftmost) (gd_app (gd_V gd_X8_faultAt) gd_nil)))))
set_option maxRecDepth 20000 in
theorem in_X8_faultOf : ∀ w ∈ vsX8_faultOf, w ∈ lw_tbl := in_cons (List.mem_of_getElem? (i := 957) (by decide +kernel)) (in_app (vsX8_faultOf_oin) (in_app (wsX80_in) (in_app (in_app (wsL_mem _ [958, 960, 36, 61] (by decide +kernel)) in_X8_typeAll) (in_app (in_app (wsL_mem _ [970, 972, 39, 61] (by decide +kernel)) in_X8_leftmost) (in_app (in_app (wsL_mem _ [974, 976, 40, 61] (by decide +kernel)) in_X8_faultAt) in_nil)))))
theorem mX8_faultOf_o : ∀ w ∈ vsX8_faultOf_o, w ∈ vsX8_faultOf := fun w h => List.mem_cons_of_mem _ (List.mem_append_left _ h)
theorem mX8_faultOf_wsX80 : ∀ w ∈ wsX80, w ∈ vsX8_faultOf := fun w h => List.mem_cons_of_mem _ (List.mem_append_right _ (List.mem_append_left _ h))
theorem gX8_faultOf_X8_typeAll : GoodIn vsX8_faultOf (wsV RX8 100 RX8 yX8_typeAll vsX8_typeAll) := fun w h => ⟨List.mem_cons_of_mem _ (List.mem_append_right _ (List.mem_append_right _ (List.mem_append_left _ h))), gd_V gd_X8_typeAll w h⟩
theorem gX8_faultOf_X8_leftmost : GoodIn vsX8_faultOf (wsV RX8 103 RX8 yX8_leftmost vsX8_leftmost) := fun w h => ⟨List.mem_cons_of_mem _ (List.mem_append_right _ (List.mem_append_right _ (List.mem_append_right _ (List.mem_append_left _ h)))), gd_V gd_X8_leftmost w h⟩
theorem gX8_faultOf_X8_faultAt : GoodIn vsX8_faultOf (wsV RX8 107 RX8 yX8_faultAt vsX8_faultAt) := fun w h => ⟨List.mem_cons_of_mem _ (List.mem_append_right _ (List.mem_append_right _ (List.mem_append_right _ (List.mem_append_right _ (List.mem_append_left _ h))))), gd_V gd_X8_faultAt w h⟩
def vsX8_wrongCount_o : List Cond := []
set_option maxRecDepth 20000 in
theorem vsX8_wrongCount_oin : ∀ w ∈ vsX8_wrongCount_o, w ∈ lw_tbl := wsL_mem _ [] (by decide +kernel)
def vsX8_wrongCount : List Cond := .code yX8_wrongCount cX8_wrongCount 3 (some .int) :: (vsX8_wrongCount_o ++ (wsV RX8 83 RX8 yX8_isTerm vsX8_isTerm ++ (wsV RX8 110 RX8 yX8_faultOf vsX8_faultOf ++ ([] : List Cond))))
theorem gd_X8_wrongCount : ∀ w ∈ vsX8_wrongCount, gdW w := gd_cons rfl (gd_app (gd_all (by decide +kernel)) (gd_app (gd_V gd_X8_isTerm) (gd_app (gd_V gd_X8_faultOf) gd_nil)))
set_option maxRecDepth 20000 in
theorem in_X8_wrongCount : ∀ w ∈ vsX8_wrongCount, w ∈ lw_tbl := in_cons (List.mem_of_getElem? (i := 1041) (by decide +kernel)) (in_app (vsX8_wrongCount_oin) (in_app (in_app (wsL_mem _ [930, 932, 33, 61] (by decide +kernel)) in_X8_isTerm) (in_app (in_app (wsL_mem _ [954, 956, 35, 61] (by decide +kernel)) in_X8_faultOf) in_nil)))
theorem mX8_wrongCount_o : ∀ w ∈ vsX8_wrongCount_o, w ∈ vsX8_wrongCount := fun w h => List.mem_cons_of_mem _ (List.mem_append_left _ h)
theorem gX8_wrongCount_X8_isTerm : GoodIn vsX8_wrongCount (wsV RX8 83 RX8 yX8_isTerm vsX8_isTerm) := fun w h => ⟨List.mem_cons_of_mem _ (List.mem_append_right _ (List.mem_append_left _ h)), gd_V gd_X8_isTerm w h⟩
theorem gX8_wrongCount_X8_faultOf : GoodIn vsX8_wrongCount (wsV RX8 110 RX8 yX8_faultOf vsX8_faultOf) := fun w h => ⟨List.mem_cons_of_mem _ (List.mem_append_right _ (List.mem_append_right _ (List.mem_append_left _ h))), gd_V gd_X8_faultOf w h⟩
def vsX8_countAt_o : List Cond := [.fieldLink RX8 16 "GuardedGrammarModel" "one" "[I", .fieldLink RX8 19 "GuardedGrammarModel" "two" "[I", .fieldLink RX8 7 "GuardedGrammarModel" "kind" "[I", .fieldLink RX8 63 "GuardedGrammarModel" "counts" "[J"]
set_option maxRecDepth 20000 in
theorem vsX8_countAt_oin : ∀ w ∈ vsX8_countAt_o, w ∈ lw_tbl := wsL_mem _ [829, 830, 827, 850] (by decide +kernel)
def vsX8_countAt : List Cond := .code yX8_countAt cX8_countAt 8 (some .long) :: (vsX8_countAt_o ++ (wsX80 ++ ([] : List Cond)))
theorem gd_X8_countAt : ∀ w ∈ vsX8_countAt, gdW w := gd_cons rfl (gd_app (gd_all (by decide +kernel)) (gd_app (gd_ws) gd_nil))
set_option maxRecDepth 20000 in
theorem in_X8_countAt : ∀ w ∈ vsX8_countAt, w ∈ lw_tbl := in_cons (List.mem_of_getElem? (i := 1049) (by decide +kernel)) (in_app (vsX8_countAt_oin) (in_app (wsX80_in) in_nil))
theorem mX8_countAt_o : ∀ w ∈ vsX8_countAt_o, w ∈ vsX8_countAt := fun w h => List.mem_cons_of_mem _ (List.mem_append_left _ h)
theorem mX8_countAt_wsX80 : ∀ w ∈ wsX80, w ∈ vsX8_countAt := fun w h => List.mem_cons_of_mem _ (List.mem_append_right _ (List.mem_append_left _ h))
def vsX8_countAll_o : List Cond := [.fieldLink RX8 76 "GuardedGrammarModel" "terms" "I", .fieldLink RX8 63 "GuardedGrammarModel" "counts" "[J", .fieldLink RX8 38 "GuardedGrammarModel" "inside" "[Z", .fieldLink RX8 7 "GuardedGrammarModel" "kind" "[I", .fieldLink RX8 41 "GuardedGrammarModel" "binder" "[I"]
set_option maxRecDepth 20000 in
theorem vsX8_countAll_oin : ∀ w ∈ vsX8_countAll_o, w ∈ lw_tbl := wsL_mem _ [826, 850, 836, 827, 837] (by decide +kernel)
def vsX8_countAll : List Cond := .code yX8_countAll cX8_countAll 7 none :: (vsX8_countAll_o ++ (wsX80 ++ (wsV RX8 141 RX8 yX8_countAt vsX8_countAt ++ ([] : List Cond))))
theorem gd_X8_countAll : ∀ w ∈ vsX8_countAll, gdW w := gd_cons rfl (gd_app (gd_all (by decide +kernel)) (gd_app (gd_ws) (gd_app (gd_V gd_X8_countAt) gd_nil)))
set_option maxRecDepth 20000 in
theorem in_X8_countAll : ∀ w ∈ vsX8_countAll, w ∈ lw_tbl := in_cons (List.mem_of_getElem? (i := 1045) (by decide +kernel)) (in_app (vsX8_countAll_oin) (in_app (wsX80_in) (in_app (in_app (wsL_mem _ [1046, 1048, 48, 61] (by decide +kernel)) in_X8_countAt) in_nil)))
theorem mX8_countAll_o : ∀ w ∈ vsX8_countAll_o, w ∈ vsX8_countAll := fun w h => List.mem_cons_of_mem _ (List.mem_append_left _ h)
theorem mX8_countAll_wsX80 : ∀ w ∈ wsX80, w ∈ vsX8_countAll := fun w h => List.mem_cons_of_mem _ (List.mem_append_right _ (List.mem_append_left _ h))
theorem gX8_countAll_X8_countAt : GoodIn vsX8_countAll (wsV RX8 141 RX8 yX8_countAt vsX8_countAt) := fun w h => ⟨List.mem_cons_of_mem _ (List.mem_append_right _ (List.mem_append_right _ (List.mem_append_left _ h))), gd_V gd_X8_countAt w h⟩
def vsX8_count_o : List Cond := [.fieldLink RX8 73 "GuardedGrammarModel" "thrown" "I", .fieldLink RX8 63 "GuardedGrammarModel" "counts" "[J"]
set_option maxRecDepth 20000 in
theorem vsX8_count_oin : ∀ w ∈ vsX8_count_o, w ∈ lw_tbl := wsL_mem _ [825, 850] (by decide +kernel)
def vsX8_count : List Cond := .code yX8_count cX8_count 3 (some .long) :: (vsX8_count_o ++ (wsX80 ++ (wsV RX8 145 RX8 yX8_wrongCount vsX8_wrongCount ++ (wsV RX8 148 RX8 yX8_countAll vsX8_countAll ++ ([] : List Cond)))))
theorem gd_X8_count : ∀ w ∈ vsX8_count, gdW w := gd_cons rfl (gd_app (gd_all (by decide +kernel)) (gd_app (gd_ws) (gd_app (gd_V gd_X8_wrongCount) (gd_app (gd_V gd_X8_countAll) gd_nil))))
set_option maxRecDepth 20000 in
theorem in_X8_count : ∀ w ∈ vsX8_count, w ∈ lw_tbl := in_cons (List.mem_of_getElem? (i := 1037) (by decide +kernel)) (in_app (vsX8_count_oin) (in_app (wsX80_in) (in_app (in_app (wsL_mem _ [1038, 1040, 46, 61] (by decide +kernel)) in_X8_wrongCount) (in_app (in_app (wsL_mem _ [1042, 1044, 47, 61] (by decide +kernel)) in_X8_countAll) in_nil))))
theorem mX8_count_o : ∀ w ∈ vsX8_count_o, w ∈ vsX8_count := fun w h => List.mem_cons_of_mem _ (List.mem_append_left _ h)
theorem mX8_count_wsX80 : ∀ w ∈ wsX80, w ∈ vsX8_count := fun w h => List.mem_cons_of_mem _ (List.mem_append_right _ (List.mem_append_left _ h))
theorem gX8_count_X8_wrongCount : GoodIn vsX8_count (wsV RX8 145 RX8 yX8_wrongCount vsX8_wrongCount) := fun w h => ⟨List.mem_cons_of_mem _ (List.mem_append_right _ (List.mem_append_right _ (List.mem_append_left _ h))), gd_V gd_X8_wrongCount w h⟩
theorem gX8_count_X8_countAll : GoodIn vsX8_count (wsV RX8 148 RX8 yX8_countAll vsX8_countAll) := fun w h => ⟨List.mem_cons_of_mem _ (List.mem_append_right _ (List.mem_append_right _ (List.mem_append_right _ (List.mem_append_left _ h)))), gd_V gd_X8_countAll w h⟩
def vsX8_countOpen_o : List Cond := [.fieldLink RX8 67 "GuardedGrammarModel" "row" "[J", .fieldLink RX8 116 "GuardedGrammarModel" "open" "I", .fieldLink RX8 70 "GuardedGrammarModel" "other" "[J", .fieldLink RX8 63 "GuardedGrammarModel" "counts" "[J", .fieldLink RX8 57 "GuardedGrammarModel" "todo" "[I"]
set_option maxRecDepth 20000 in
theorem vsX8_countOpen_oin : ∀ w ∈ vsX8_countOpen_o, w ∈ lw_tbl := wsL_mem _ [851, 846, 852, 850, 847] (by decide +kernel)
def vsX8_countOpen : List Cond := .code yX8_countOpen cX8_countOpen 5 (some .long) :: (vsX8_countOpen_o ++ (wsX80 ++ ([] : List Cond)))
theorem gd_X8_countOpen : ∀ w ∈ vsX8_countOpen, gdW w := gd_cons rfl (gd_app (gd_all (by decide +kernel)) (gd_app (gd_ws) gd_nil))
set_option maxRecDepth 20000 in
theorem in_X8_countOpen : ∀ w ∈ vsX8_countOpen, w ∈ lw_tbl := in_cons (List.mem_of_getElem? (i := 1061) (by decide +kernel)) (in_app (vsX8_countOpen_oin) (in_app (wsX80_in) in_nil))
theorem mX8_countOpen_o : ∀ w ∈ vsX8_countOpen_o, w ∈ vsX8_countOpen := fun w h => List.mem_cons_of_mem _ (List.mem_append_left _ h)
theorem mX8_countOpen_wsX80 : ∀ w ∈ wsX80, w ∈ vsX8_countOpen := fun w h => List.mem_cons_of_mem _ (List.mem_append_right _ (List.mem_append_left _ h))
def vsX8_cut_o : List Cond := [.fieldLink RX8 73 "GuardedGrammarModel" "thrown" "I", .fieldLink RX8 113 "GuardedGrammarModel" "letters" "I"]
set_option maxRecDepth 20000 in
theorem vsX8_cut_oin : ∀ w ∈ vsX8_cut_o, w ∈ lw_tbl := wsL_mem _ [825, 838] (by decide +kernel)
def vsX8_cut : List Cond := .code yX8_cut cX8_cut 2 (some .boolean) :: (vsX8_cut_o ++ (wsX80 ++ ([] : List Cond)))
theorem gd_X8_cut : ∀ w ∈ vsX8_cut, gdW w := gd_cons rfl (gd_app (gd_all (by decide +kernel)) (gd_app (gd_ws) gd_nil))
set_option maxRecDepth 20000 in
theorem in_X8_cut : ∀ w ∈ vsX8_cut, w ∈ lw_tbl := in_cons (List.mem_of_getElem? (i := 993) (by decide +kernel)) (in_app (vsX8_cut_oin) (in_app (wsX80_in) in_nil))
theorem mX8_cut_o : ∀ w ∈ vsX8_cut_o, w ∈ vsX8_cut := fun w h => List.mem_cons_of_mem _ (List.mem_append_left _ h)
theorem mX8_cut_wsX80 : ∀ w ∈ wsX80, w ∈ vsX8_cut := fun w h => List.mem_cons_of_mem _ (List.mem_append_right _ (List.mem_append_left _ h))
def vsX8_fail_o : List Cond := [.fieldLink RX8 73 "GuardedGrammarModel" "thrown" "I"]
set_option maxRecDepth 20000 in
theorem vsX8_fail_oin : ∀ w ∈ vsX8_fail_o, w ∈ lw_tbl := wsL_mem _ [825] (by decide +kernel)
def vsX8_fail : List Cond := .code yX8_fail cX8_fail 2 (some .int) :: (vsX8_fail_o ++ (wsX80 ++ ([] : List Cond)))
theorem gd_X8_fail : ∀ w ∈ vsX8_fail, gdW w := gd_cons rfl (gd_app (gd_all (by decide +kernel)) (gd_app (gd_ws) gd_nil))
set_option maxRecDepth 20000 in
theorem in_X8_fail : ∀ w ∈ vsX8_fail, w ∈ lw_tbl := in_cons (List.mem_of_getElem? (i := 1021) (by decide +kernel)) (in_app (vsX8_fail_oin) (in_app (wsX80_in) in_nil))
theorem mX8_fail_o : ∀ w ∈ vsX8_fail_o, w ∈ vsX8_fail := fun w h => List.mem_cons_of_mem _ (List.mem_append_left _ h)
theorem mX8_fail_wsX80 : ∀ w ∈ wsX80, w ∈ vsX8_fail := fun w h => List.mem_cons_of_mem _ (List.mem_append_right _ (List.mem_append_left _ h))
def vsX8_fault_o : List Cond := [.fieldLink RX8 73 "GuardedGrammarModel" "thrown" "I"]
set_option maxRecDepth 20000 in
theorem vsX8_fault_oin : ∀ w ∈ vsX8_fault_o, w ∈ lw_tbl := wsL_mem _ [825] (by decide +kernel)
def vsX8_fault : List Cond := .code yX8_fault cX8_fault 2 (some .int) :: (vsX8_fault_o ++ (wsX80 ++ (wsV RX8 83 RX8 yX8_isTerm vsX8_isTerm ++ (wsV RX8 110 RX8 yX8_faultOf vsX8_faultOf ++ ([] : List Cond)))))
theorem gd_X8_fault : ∀ w ∈ vsX8_fault, gdW w := gd_cons rfl (gd_app (gd_all (by decide +kernel)) (gd_app (gd_ws) (gd_app (gd_V gd_X8_isTerm) (gd_app (gd_V gd_X8_faultOf) gd_nil))))
set_option maxRecDepth 20000 in
theorem in_X8_fault : ∀ w ∈ vsX8_fault, w ∈ lw_tbl := in_cons (List.mem_of_getElem? (i := 953) (by decide +kernel)) (in_app (vsX8_fault_oin) (in_app (wsX80_in) (in_app (in_app (wsL_mem _ [930, 932, 33, 61] (by decide +kernel)) in_X8_isTerm) (in_app (in_app (wsL_mem _ [954, 956, 35, 61] (by decide +kernel)) in_X8_faultOf) in_nil))))
theorem mX8_fault_o : ∀ w ∈ vsX8_fault_o, w ∈ vsX8_fault := fun w h => List.mem_cons_of_mem _ (List.mem_append_left _ h)
theorem mX8_fault_wsX80 : ∀ w ∈ wsX80, w ∈ vsX8_fault := fun w h => List.mem_cons_of_mem _ (List.mem_append_right _ (List.mem_append_left _ h))
theorem gX8_fault_X8_isTerm : GoodIn vsX8_fault (wsV RX8 83 RX8 yX8_isTerm vsX8_isTerm) := fun w h => ⟨List.mem_cons_of_mem _ (List.mem_append_right _ (List.mem_append_right _ (List.mem_append_left _ h))), gd_V gd_X8_isTerm w h⟩
theorem gX8_fault_X8_faultOf : GoodIn vsX8_fault (wsV RX8 110 RX8 yX8_faultOf vsX8_faultOf) := fun w h => ⟨List.mem_cons_of_mem _ (List.mem_append_right _ (List.mem_append_right _ (List.mem_append_right _ (List.mem_append_left _ h)))), gd_V gd_X8_faultOf w h⟩
def vsX8_keep_o : List Cond := [.fieldLink RX8 116 "GuardedGrammarModel" "open" "I", .fieldLink RX8 151 "GuardedGrammarModel" "saved" "I", .fieldLink RX8 60 "GuardedGrammarModel" "todoSaved" "[I", .fieldLink RX8 57 "GuardedGrammarModel" "todo" "[I"]
set_option maxRecDepth 20000 in
theorem vsX8_keep_oin : ∀ w ∈ vsX8_keep_o, w ∈ lw_tbl := wsL_mem _ [846, 848, 849, 847] (by decide +kernel)
def vsX8_keep : List Cond := .code yX8_keep cX8_keep 2 none :: (vsX8_keep_o ++ (wsX80 ++ ([] : List Cond)))
theorem gd_X8_keep : ∀ w ∈ vsX8_keep, gdW w := gd_cons rfl (gd_app (gd_all (by decide +kernel)) (gd_app (gd_ws) gd_nil))
set_option maxRecDepth 20000 in
theorem in_X8_keep : ∀ w ∈ vsX8_keep, w ∈ lw_tbl := in_cons (List.mem_of_getElem? (i := 1057) (by decide +kernel)) (in_app (vsX8_keep_oin) (in_app (wsX80_in) in_nil))
theorem mX8_keep_o : ∀ w ∈ vsX8_keep_o, w ∈ vsX8_keep := fun w h => List.mem_cons_of_mem _ (List.mem_append_left _ h)
theorem mX8_keep_wsX80 : ∀ w ∈ wsX80, w ∈ vsX8_keep := fun w h => List.mem_cons_of_mem _ (List.mem_append_right _ (List.mem_append_left _ h))
def vsX8_go_o : List Cond := [.fieldLink RX8 116 "GuardedGrammarModel" "open" "I", .fieldLink RX8 57 "GuardedGrammarModel" "todo" "[I", .fieldLink RX8 119 "GuardedGrammarModel" "visited" "I", .fieldLink RX8 7 "GuardedGrammarModel" "kind" "[I", .fieldLink RX8 13 "GuardedGrammarModel" "sign" "[I", .fieldLink RX8 19 "GuardedGrammarModel" "two" "[I", .fieldLink RX8 16 "GuardedGrammarModel" "one" "[I", .fieldLink RX8 41 "GuardedGrammarModel" "binder" "[I", .fieldLink RX8 54 "GuardedGrammarModel" "met" "[I", .fieldLink RX8 126 "GuardedGrammarModel" "fresh" "I"]
set_option maxRecDepth 20000 in
theorem vsX8_go_oin : ∀ w ∈ vsX8_go_o, w ∈ lw_tbl := wsL_mem _ [846, 847, 845, 827, 828, 830, 829, 837, 844, 843] (by decide +kernel)
def vsX8_go : List Cond := .code yX8_go cX8_go 4 (some .int) :: (vsX8_go_o ++ (wsX80 ++ (wsV RX8 122 RX8 yX8_choice vsX8_choice ++ ([] : List Cond))))
theorem gd_X8_go : ∀ w ∈ vsX8_go, gdW w := gd_cons rfl (gd_app (gd_all (by decide +kernel)) (gd_app (gd_ws) (gd_app (gd_V gd_X8_choice) gd_nil)))
set_option maxRecDepth 20000 in
theorem in_X8_go : ∀ w ∈ vsX8_go, w ∈ lw_tbl := in_cons (List.mem_of_getElem? (i := 1013) (by decide +kernel)) (in_app (vsX8_go_oin) (in_app (wsX80_in) (in_app (in_app (wsL_mem _ [1014, 1016, 44, 61] (by decide +kernel)) in_X8_choice) in_nil)))
theorem mX8_go_o : ∀ w ∈ vsX8_go_o, w ∈ vsX8_go := fun w h => List.mem_cons_of_mem _ (List.mem_append_left _ h)
theorem mX8_go_wsX80 : ∀ w ∈ wsX80, w ∈ vsX8_go := fun w h => List.mem_cons_of_mem _ (List.mem_append_right _ (List.mem_append_left _ h))
theorem gX8_go_X8_choice : GoodIn vsX8_go (wsV RX8 122 RX8 yX8_choice vsX8_choice) := fun w h => ⟨List.mem_cons_of_mem _ (List.mem_append_right _ (List.mem_append_right _ (List.mem_append_left _ h))), gd_V gd_X8_choice w h⟩
def vsX8_find_o : List Cond := [.fieldLink RX8 73 "GuardedGrammarModel" "thrown" "I", .fieldLink RX8 63 "GuardedGrammarModel" "counts" "[J", .fieldLink RX8 44 "GuardedGrammarModel" "word" "[I", .fieldLink RX8 126 "GuardedGrammarModel" "fresh" "I", .fieldLink RX8 113 "GuardedGrammarModel" "letters" "I"]
set_option maxRecDepth 20000 in
theorem vsX8_find_oin : ∀ w ∈ vsX8_find_o, w ∈ lw_tbl := wsL_mem _ [825, 850, 839, 843, 838] (by decide +kernel)
def vsX8_find : List Cond := .code yX8_find cX8_find 12 none :: (vsX8_find_o ++ (wsX80 ++ (wsV RX8 145 RX8 yX8_wrongCount vsX8_wrongCount ++ (wsV RX8 148 RX8 yX8_countAll vsX8_countAll ++ (wsV RX8 129 RX8 yX8_beginAt vsX8_beginAt ++ (wsV RX8 154 RX8 yX8_keep vsX8_keep ++ (wsV RX8 132 RX8 yX8_go vsX8_go ++ (wsV RX8 157 RX8 yX8_countOpen vsX8_countOpen ++ (wsV RX8 161 RX8 yX8_back vsX8_back ++ ([] : List Cond))))))))))
theorem gd_X8_find : ∀ w ∈ vsX8_find, gdW w := gd_cons rfl (gd_app (gd_all (by decide +kernel)) (gd_app (gd_ws) (gd_app (gd_V gd_X8_wrongCount) (gd_app (gd_V gd_X8_countAll) (gd_app (gd_V gd_X8_beginAt) (gd_app (gd_V gd_X8_keep) (gd_app (gd_V gd_X8_go) (gd_app (gd_V gd_X8_countOpen) (gd_app (gd_V gd_X8_back) gd_nil)))))))))
set_option maxRecDepth 20000 in
theorem in_X8_find : ∀ w ∈ vsX8_find, w ∈ lw_tbl := in_cons (List.mem_of_getElem? (i := 1053) (by decide +kernel)) (in_app (vsX8_find_oin) (in_app (wsX80_in) (in_app (in_app (wsL_mem _ [1038, 1040, 46, 61] (by decide +kernel)) in_X8_wrongCount) (in_app (in_app (wsL_mem _ [1042, 1044, 47, 61] (by decide +kernel)) in_X8_countAll) (in_app (in_app (wsL_mem _ [1006, 1008, 42, 61] (by decide +kernel)) in_X8_beginAt) (in_app (in_app (wsL_mem _ [1054, 1056, 49, 61] (by decide +kernel)) in_X8_keep) (in_app (in_app (wsL_mem _ [1010, 1012, 43, 61] (by decide +kernel)) in_X8_go) (in_app (in_app (wsL_mem _ [1058, 1060, 50, 61] (by decide +kernel)) in_X8_countOpen) (in_app (in_app (wsL_mem _ [1062, 1064, 51, 61] (by decide +kernel)) in_X8_back) in_nil)))))))))
theorem mX8_find_o : ∀ w ∈ vsX8_find_o, w ∈ vsX8_find := fun w h => List.mem_cons_of_mem _ (List.mem_append_left _ h)
theorem mX8_find_wsX80 : ∀ w ∈ wsX80, w ∈ vsX8_find := fun w h => List.mem_cons_of_mem _ (List.mem_append_right _ (List.mem_append_left _ h))
theorem gX8_find_X8_wrongCount : GoodIn vsX8_find (wsV RX8 145 RX8 yX8_wrongCount vsX8_wrongCount) := fun w h => ⟨List.mem_cons_of_mem _ (List.mem_append_right _ (List.mem_append_right _ (List.mem_append_left _ h))), gd_V gd_X8_wrongCount w h⟩
theorem gX8_find_X8_countAll : GoodIn vsX8_find (wsV RX8 148 RX8 yX8_countAll vsX8_countAll) := fun w h => ⟨List.mem_cons_of_mem _ (List.mem_append_right _ (List.mem_append_right _ (List.mem_append_right _ (List.mem_append_left _ h)))), gd_V gd_X8_countAll w h⟩
theorem gX8_find_X8_beginAt : GoodIn vsX8_find (wsV RX8 129 RX8 yX8_beginAt vsX8_beginAt) := fun w h => ⟨List.mem_cons_of_mem _ (List.mem_append_right _ (List.mem_append_right _ (List.mem_append_right _ (List.mem_append_right _ (List.mem_append_left _ h))))), gd_V gd_X8_beginAt w h⟩
theorem gX8_find_X8_keep : GoodIn vsX8_find (wsV RX8 154 RX8 yX8_keep vsX8_keep) := fun w h => ⟨List.mem_cons_of_mem _ (List.mem_append_right _ (List.mem_append_right _ (List.mem_append_right _ (List.mem_append_right _ (List.mem_append_right _ (List.mem_append_left _ h)))))), gd_V gd_X8_keep w h⟩
theorem gX8_find_X8_go : GoodIn vsX8_find (wsV RX8 132 RX8 yX8_go vsX8_go) := fun w h => ⟨List.mem_cons_of_mem _ (List.mem_append_right _ (List.mem_append_right _ (List.mem_append_right _ (List.mem_append_right _ (List.mem_append_right _ (List.mem_append_right _ (List.mem_append_left _ h))))))), gd_V gd_X8_go w h⟩
theorem gX8_find_X8_countOpen : GoodIn vsX8_find (wsV RX8 157 RX8 yX8_countOpen vsX8_countOpen) := fun w h => ⟨List.mem_cons_of_mem _ (List.mem_append_right _ (List.mem_append_right _ (List.mem_append_right _ (List.mem_append_right _ (List.mem_append_right _ (List.mem_append_right _ (List.mem_append_right _ (List.mem_append_left _ h)))))))), gd_V gd_X8_countOpen w h⟩
theorem gX8_find_X8_back : GoodIn vsX8_find (wsV RX8 161 RX8 yX8_back vsX8_back) := fun w h => ⟨List.mem_cons_of_mem _ (List.mem_append_right _ (List.mem_append_right _ (List.mem_append_right _ (List.mem_append_right _ (List.mem_append_right _ (List.mem_append_right _ (List.mem_append_right _ (List.mem_append_right _ (List.mem_append_left _ h))))))))), gd_V gd_X8_back w h⟩
def vsX8_init_o : List Cond := [.methodLink RX8 1 objectInit, .instanceMethod objectInit, .code objectInit ⟨#[0xb1]⟩ 1 none, .arrayClass .int, .fieldLink RX8 7 "GuardedGrammarModel" "kind" "[I", .fieldLink RX8 13 "GuardedGrammarModel" "sign" "[I", .fieldLink RX8 16 "GuardedGrammarModel" "one" "[I", .fieldLink RX8 19 "GuardedGrammarModel" "two" "[I", .fieldLink RX8 22 "GuardedGrammarModel" "whole" "[I", .fieldLink RX8 25 "GuardedGrammarModel" "knots" "[I", .arrayClass .boolean, .fieldLink RX8 28 "GuardedGrammarModel" "nullable" "[Z", .fieldLink RX8 32 "GuardedGrammarModel" "first" "[I", .fieldLink RX8 35 "GuardedGrammarModel" "after" "[I", .fieldLink RX8 38 "GuardedGrammarModel" "inside" "[Z", .fieldLink RX8 41 "GuardedGrammarModel" "binder" "[I", .fieldLink RX8 44 "GuardedGrammarModel" "word" "[I", .fieldLink RX8 47 "GuardedGrammarModel" "at" "I", .fieldLink RX8 51 "GuardedGrammarModel" "trace" "[I", .fieldLink RX8 54 "GuardedGrammarModel" "met" "[I", .fieldLink RX8 57 "GuardedGrammarModel" "todo" "[I", .fieldLink RX8 60 "GuardedGrammarModel" "todoSaved" "[I", .arrayClass .long, .fieldLink RX8 63 "GuardedGrammarModel" "counts" "[J", .fieldLink RX8 67 "GuardedGrammarModel" "row" "[J", .fieldLink RX8 70 "GuardedGrammarModel" "other" "[J"]
set_option maxRecDepth 20000 in
theorem vsX8_init_oin : ∀ w ∈ vsX8_init_o, w ∈ lw_tbl := wsL_mem _ [824, 78, 79, 108, 827, 828, 829, 830, 831, 832, 143, 833, 834, 835, 836, 837, 839, 840, 842, 844, 847, 849, 176, 850, 851, 852] (by decide +kernel)
def vsX8_init : List Cond := .code yX8_init cX8_init 1 none :: (vsX8_init_o ++ (wsX80 ++ ([] : List Cond)))
theorem gd_X8_init : ∀ w ∈ vsX8_init, gdW w := gd_cons rfl (gd_app (gd_all (by decide +kernel)) (gd_app (gd_ws) gd_nil))
set_option maxRecDepth 20000 in
theorem in_X8_init : ∀ w ∈ vsX8_init, w ∈ lw_tbl := in_cons (List.mem_of_getElem? (i := 823) (by decide +kernel)) (in_app (vsX8_init_oin) (in_app (wsX80_in) in_nil))
theorem mX8_init_o : ∀ w ∈ vsX8_init_o, w ∈ vsX8_init := fun w h => List.mem_cons_of_mem _ (List.mem_append_left _ h)
theorem mX8_init_wsX80 : ∀ w ∈ wsX80, w ∈ vsX8_init := fun w h => List.mem_cons_of_mem _ (List.mem_append_right _ (List.mem_append_left _ h))
def vsX8_isPart_o : List Cond := [.fieldLink RX8 22 "GuardedGrammarModel" "whole" "[I"]
set_option maxRecDepth 20000 in
theorem vsX8_isPart_oin : ∀ w ∈ vsX8_isPart_o, w ∈ lw_tbl := wsL_mem _ [831] (by decide +kernel)
def vsX8_isPart : List Cond := .code yX8_isPart cX8_isPart 2 (some .boolean) :: (vsX8_isPart_o ++ (wsX80 ++ ([] : List Cond)))
theorem gd_X8_isPart : ∀ w ∈ vsX8_isPart, gdW w := gd_cons rfl (gd_app (gd_all (by decide +kernel)) (gd_app (gd_ws) gd_nil))
set_option maxRecDepth 20000 in
theorem in_X8_isPart : ∀ w ∈ vsX8_isPart, w ∈ lw_tbl := in_cons (List.mem_of_getElem? (i := 937) (by decide +kernel)) (in_app (vsX8_isPart_oin) (in_app (wsX80_in) in_nil))
theorem mX8_isPart_o : ∀ w ∈ vsX8_isPart_o, w ∈ vsX8_isPart := fun w h => List.mem_cons_of_mem _ (List.mem_append_left _ h)
theorem mX8_isPart_wsX80 : ∀ w ∈ wsX80, w ∈ vsX8_isPart := fun w h => List.mem_cons_of_mem _ (List.mem_append_right _ (List.mem_append_left _ h))
def vsX8_join_o : List Cond := [.fieldLink RX8 76 "GuardedGrammarModel" "terms" "I", .fieldLink RX8 73 "GuardedGrammarModel" "thrown" "I"]
set_option maxRecDepth 20000 in
theorem vsX8_join_oin : ∀ w ∈ vsX8_join_o, w ∈ lw_tbl := wsL_mem _ [826, 825] (by decide +kernel)
def vsX8_join : List Cond := .code yX8_join cX8_join 4 (some .int) :: (vsX8_join_o ++ (wsX80 ++ (wsV RX8 83 RX8 yX8_isTerm vsX8_isTerm ++ (wsV RX8 87 RX8 yX8_isPart vsX8_isPart ++ (wsV RX8 79 RX8 yX8_add vsX8_add ++ ([] : List Cond))))))
theorem gd_X8_join : ∀ w ∈ vsX8_join, gdW w := gd_cons rfl (gd_app (gd_all (by decide +kernel)) (gd_app (gd_ws) (gd_app (gd_V gd_X8_isTerm) (gd_app (gd_V gd_X8_isPart) (gd_app (gd_V gd_X8_add) gd_nil)))))
set_option maxRecDepth 20000 in
theorem in_X8_join : ∀ w ∈ vsX8_join, w ∈ lw_tbl := in_cons (List.mem_of_getElem? (i := 929) (by decide +kernel)) (in_app (vsX8_join_oin) (in_app (wsX80_in) (in_app (in_app (wsL_mem _ [930, 932, 33, 61] (by decide +kernel)) in_X8_isTerm) (in_app (in_app (wsL_mem _ [934, 936, 34, 61] (by decide +kernel)) in_X8_isPart) (in_app (in_app (wsL_mem _ [918, 920, 32, 61] (by decide +kernel)) in_X8_add) in_nil)))))
theorem mX8_join_o : ∀ w ∈ vsX8_join_o, w ∈ vsX8_join := fun w h => List.mem_cons_of_mem _ (List.mem_append_left _ h)
theorem mX8_join_wsX80 : ∀ w ∈ wsX80, w ∈ vsX8_join := fun w h => List.mem_cons_of_mem _ (List.mem_append_right _ (List.mem_append_left _ h))
theorem gX8_join_X8_isTerm : GoodIn vsX8_join (wsV RX8 83 RX8 yX8_isTerm vsX8_isTerm) := fun w h => ⟨List.mem_cons_of_mem _ (List.mem_append_right _ (List.mem_append_right _ (List.mem_append_left _ h))), gd_V gd_X8_isTerm w h⟩
theorem gX8_join_X8_isPart : GoodIn vsX8_join (wsV RX8 87 RX8 yX8_isPart vsX8_isPart) := fun w h => ⟨List.mem_cons_of_mem _ (List.mem_append_right _ (List.mem_append_right _ (List.mem_append_right _ (List.mem_append_left _ h)))), gd_V gd_X8_isPart w h⟩
theorem gX8_join_X8_add : GoodIn vsX8_join (wsV RX8 79 RX8 yX8_add vsX8_add) := fun w h => ⟨List.mem_cons_of_mem _ (List.mem_append_right _ (List.mem_append_right _ (List.mem_append_right _ (List.mem_append_right _ (List.mem_append_left _ h))))), gd_V gd_X8_add w h⟩
def vsX8_knot_o : List Cond := [.fieldLink RX8 76 "GuardedGrammarModel" "terms" "I", .fieldLink RX8 25 "GuardedGrammarModel" "knots" "[I", .fieldLink RX8 73 "GuardedGrammarModel" "thrown" "I"]
set_option maxRecDepth 20000 in
theorem vsX8_knot_oin : ∀ w ∈ vsX8_knot_o, w ∈ lw_tbl := wsL_mem _ [826, 832, 825] (by decide +kernel)
def vsX8_knot : List Cond := .code yX8_knot cX8_knot 3 (some .int) :: (vsX8_knot_o ++ (wsX80 ++ (wsV RX8 83 RX8 yX8_isTerm vsX8_isTerm ++ (wsV RX8 87 RX8 yX8_isPart vsX8_isPart ++ (wsV RX8 79 RX8 yX8_add vsX8_add ++ ([] : List Cond))))))
theorem gd_X8_knot : ∀ w ∈ vsX8_knot, gdW w := gd_cons rfl (gd_app (gd_all (by decide +kernel)) (gd_app (gd_ws) (gd_app (gd_V gd_X8_isTerm) (gd_app (gd_V gd_X8_isPart) (gd_app (gd_V gd_X8_add) gd_nil)))))
set_option maxRecDepth 20000 in
theorem in_X8_knot : ∀ w ∈ vsX8_knot, w ∈ lw_tbl := in_cons (List.mem_of_getElem? (i := 941) (by decide +kernel)) (in_app (vsX8_knot_oin) (in_app (wsX80_in) (in_app (in_app (wsL_mem _ [930, 932, 33, 61] (by decide +kernel)) in_X8_isTerm) (in_app (in_app (wsL_mem _ [934, 936, 34, 61] (by decide +kernel)) in_X8_isPart) (in_app (in_app (wsL_mem _ [918, 920, 32, 61] (by decide +kernel)) in_X8_add) in_nil)))))
theorem mX8_knot_o : ∀ w ∈ vsX8_knot_o, w ∈ vsX8_knot := fun w h => List.mem_cons_of_mem _ (List.mem_append_left _ h)
theorem mX8_knot_wsX80 : ∀ w ∈ wsX80, w ∈ vsX8_knot := fun w h => List.mem_cons_of_mem _ (List.mem_append_right _ (List.mem_append_left _ h))
theorem gX8_knot_X8_isTerm : GoodIn vsX8_knot (wsV RX8 83 RX8 yX8_isTerm vsX8_isTerm) := fun w h => ⟨List.mem_cons_of_mem _ (List.mem_append_right _ (List.mem_append_right _ (List.mem_append_left _ h))), gd_V gd_X8_isTerm w h⟩
theorem gX8_knot_X8_isPart : GoodIn vsX8_knot (wsV RX8 87 RX8 yX8_isPart vsX8_isPart) := fun w h => ⟨List.mem_cons_of_mem _ (List.mem_append_right _ (List.mem_append_right _ (List.mem_append_right _ (List.mem_append_left _ h)))), gd_V gd_X8_isPart w h⟩
theorem gX8_knot_X8_add : GoodIn vsX8_knot (wsV RX8 79 RX8 yX8_add vsX8_add) := fun w h => ⟨List.mem_cons_of_mem _ (List.mem_append_right _ (List.mem_append_right _ (List.mem_append_right _ (List.mem_append_right _ (List.mem_append_left _ h))))), gd_V gd_X8_add w h⟩
def vsX8_leaf_o : List Cond := [.fieldLink RX8 76 "GuardedGrammarModel" "terms" "I", .fieldLink RX8 73 "GuardedGrammarModel" "thrown" "I"]
set_option maxRecDepth 20000 in
theorem vsX8_leaf_oin : ∀ w ∈ vsX8_leaf_o, w ∈ lw_tbl := wsL_mem _ [826, 825] (by decide +kernel)
def vsX8_leaf : List Cond := .code yX8_leaf cX8_leaf 2 (some .int) :: (vsX8_leaf_o ++ (wsX80 ++ (wsV RX8 79 RX8 yX8_add vsX8_add ++ ([] : List Cond))))
theorem gd_X8_leaf : ∀ w ∈ vsX8_leaf, gdW w := gd_cons rfl (gd_app (gd_all (by decide +kernel)) (gd_app (gd_ws) (gd_app (gd_V gd_X8_add) gd_nil)))
set_option maxRecDepth 20000 in
theorem in_X8_leaf : ∀ w ∈ vsX8_leaf, w ∈ lw_tbl := in_cons (List.mem_of_getElem? (i := 917) (by decide +kernel)) (in_app (vsX8_leaf_oin) (in_app (wsX80_in) (in_app (in_app (wsL_mem _ [918, 920, 32, 61] (by decide +kernel)) in_X8_add) in_nil)))
theorem mX8_leaf_o : ∀ w ∈ vsX8_leaf_o, w ∈ vsX8_leaf := fun w h => List.mem_cons_of_mem _ (List.mem_append_left _ h)
theorem mX8_leaf_wsX80 : ∀ w ∈ wsX80, w ∈ vsX8_leaf := fun w h => List.mem_cons_of_mem _ (List.mem_append_right _ (List.mem_append_left _ h))
theorem gX8_leaf_X8_add : GoodIn vsX8_leaf (wsV RX8 79 RX8 yX8_add vsX8_add) := fun w h => ⟨List.mem_cons_of_mem _ (List.mem_append_right _ (List.mem_append_right _ (List.mem_append_left _ h))), gd_V gd_X8_add w h⟩
def vsX8_length_o : List Cond := [.fieldLink RX8 73 "GuardedGrammarModel" "thrown" "I", .fieldLink RX8 113 "GuardedGrammarModel" "letters" "I"]
set_option maxRecDepth 20000 in
theorem vsX8_length_oin : ∀ w ∈ vsX8_length_o, w ∈ lw_tbl := wsL_mem _ [825, 838] (by decide +kernel)
def vsX8_length : List Cond := .code yX8_length cX8_length 1 (some .int) :: (vsX8_length_o ++ (wsX80 ++ ([] : List Cond)))
theorem gd_X8_length : ∀ w ∈ vsX8_length, gdW w := gd_cons rfl (gd_app (gd_all (by decide +kernel)) (gd_app (gd_ws) gd_nil))
set_option maxRecDepth 20000 in
theorem in_X8_length : ∀ w ∈ vsX8_length, w ∈ lw_tbl := in_cons (List.mem_of_getElem? (i := 997) (by decide +kernel)) (in_app (vsX8_length_oin) (in_app (wsX80_in) in_nil))
theorem mX8_length_o : ∀ w ∈ vsX8_length_o, w ∈ vsX8_length := fun w h => List.mem_cons_of_mem _ (List.mem_append_left _ h)
theorem mX8_length_wsX80 : ∀ w ∈ wsX80, w ∈ vsX8_length := fun w h => List.mem_cons_of_mem _ (List.mem_append_right _ (List.mem_append_left _ h))
def vsX8_letter_o : List Cond := [.fieldLink RX8 113 "GuardedGrammarModel" "letters" "I", .fieldLink RX8 73 "GuardedGrammarModel" "thrown" "I", .fieldLink RX8 44 "GuardedGrammarModel" "word" "[I"]
set_option maxRecDepth 20000 in
theorem vsX8_letter_oin : ∀ w ∈ vsX8_letter_o, w ∈ lw_tbl := wsL_mem _ [838, 825, 839] (by decide +kernel)
def vsX8_letter : List Cond := .code yX8_letter cX8_letter 2 (some .int) :: (vsX8_letter_o ++ (wsX80 ++ ([] : List Cond)))
theorem gd_X8_letter : ∀ w ∈ vsX8_letter, gdW w := gd_cons rfl (gd_app (gd_all (by decide +kernel)) (gd_app (gd_ws) gd_nil))
set_option maxRecDepth 20000 in
theorem in_X8_letter : ∀ w ∈ vsX8_letter, w ∈ lw_tbl := in_cons (List.mem_of_getElem? (i := 1001) (by decide +kernel)) (in_app (vsX8_letter_oin) (in_app (wsX80_in) in_nil))
theorem mX8_letter_o : ∀ w ∈ vsX8_letter_o, w ∈ vsX8_letter := fun w h => List.mem_cons_of_mem _ (List.mem_append_left _ h)
theorem mX8_letter_wsX80 : ∀ w ∈ wsX80, w ∈ vsX8_letter := fun w h => List.mem_cons_of_mem _ (List.mem_append_right _ (List.mem_append_left _ h))
def vsX8_put_o : List Cond := [.fieldLink RX8 73 "GuardedGrammarModel" "thrown" "I", .fieldLink RX8 113 "GuardedGrammarModel" "letters" "I", .fieldLink RX8 44 "GuardedGrammarModel" "word" "[I"]
set_option maxRecDepth 20000 in
theorem vsX8_put_oin : ∀ w ∈ vsX8_put_o, w ∈ lw_tbl := wsL_mem _ [825, 838, 839] (by decide +kernel)
def vsX8_put : List Cond := .code yX8_put cX8_put 2 (some .boolean) :: (vsX8_put_o ++ (wsX80 ++ ([] : List Cond)))
theorem gd_X8_put : ∀ w ∈ vsX8_put, gdW w := gd_cons rfl (gd_app (gd_all (by decide +kernel)) (gd_app (gd_ws) gd_nil))
set_option maxRecDepth 20000 in
theorem in_X8_put : ∀ w ∈ vsX8_put, w ∈ lw_tbl := in_cons (List.mem_of_getElem? (i := 989) (by decide +kernel)) (in_app (vsX8_put_oin) (in_app (wsX80_in) in_nil))
theorem mX8_put_o : ∀ w ∈ vsX8_put_o, w ∈ vsX8_put := fun w h => List.mem_cons_of_mem _ (List.mem_append_left _ h)
theorem mX8_put_wsX80 : ∀ w ∈ wsX80, w ∈ vsX8_put := fun w h => List.mem_cons_of_mem _ (List.mem_append_right _ (List.mem_append_left _ h))
def vsX8_read_o : List Cond := [.fieldLink RX8 73 "GuardedGrammarModel" "thrown" "I", .fieldLink RX8 113 "GuardedGrammarModel" "letters" "I", .fieldLink RX8 44 "GuardedGrammarModel" "word" "[I", .fieldLink RX8 47 "GuardedGrammarModel" "at" "I", .fieldLink RX8 126 "GuardedGrammarModel" "fresh" "I", .fieldLink RX8 138 "GuardedGrammarModel" "steps" "I", .fieldLink RX8 51 "GuardedGrammarModel" "trace" "[I", .fieldLink RX8 54 "GuardedGrammarModel" "met" "[I", .fieldLink RX8 119 "GuardedGrammarModel" "visited" "I"]
set_option maxRecDepth 20000 in
theorem vsX8_read_oin : ∀ w ∈ vsX8_read_o, w ∈ lw_tbl := wsL_mem _ [825, 838, 839, 840, 843, 841, 842, 844, 845] (by decide +kernel)
def vsX8_read : List Cond := .code yX8_read cX8_read 5 (some .int) :: (vsX8_read_o ++ (wsX80 ++ (wsV RX8 83 RX8 yX8_isTerm vsX8_isTerm ++ (wsV RX8 110 RX8 yX8_faultOf vsX8_faultOf ++ (wsV RX8 129 RX8 yX8_beginAt vsX8_beginAt ++ (wsV RX8 132 RX8 yX8_go vsX8_go ++ (wsV RX8 135 RX8 yX8_fail vsX8_fail ++ ([] : List Cond))))))))
theorem gd_X8_read : ∀ w ∈ vsX8_read, gdW w := gd_cons rfl (gd_app (gd_all (by decide +kernel)) (gd_app (gd_ws) (gd_app (gd_V gd_X8_isTerm) (gd_app (gd_V gd_X8_faultOf) (gd_app (gd_V gd_X8_beginAt) (gd_app (gd_V gd_X8_go) (gd_app (gd_V gd_X8_fail) gd_nil)))))))
set_option maxRecDepth 20000 in
theorem in_X8_read : ∀ w ∈ vsX8_read, w ∈ lw_tbl := in_cons (List.mem_of_getElem? (i := 1005) (by decide +kernel)) (in_app (vsX8_read_oin) (in_app (wsX80_in) (in_app (in_app (wsL_mem _ [930, 932, 33, 61] (by decide +kernel)) in_X8_isTerm) (in_app (in_app (wsL_mem _ [954, 956, 35, 61] (by decide +kernel)) in_X8_faultOf) (in_app (in_app (wsL_mem _ [1006, 1008, 42, 61] (by decide +kernel)) in_X8_beginAt) (in_app (in_app (wsL_mem _ [1010, 1012, 43, 61] (by decide +kernel)) in_X8_go) (in_app (in_app (wsL_mem _ [1018, 1020, 45, 61] (by decide +kernel)) in_X8_fail) in_nil)))))))
theorem mX8_read_o : ∀ w ∈ vsX8_read_o, w ∈ vsX8_read := fun w h => List.mem_cons_of_mem _ (List.mem_append_left _ h)
theorem mX8_read_wsX80 : ∀ w ∈ wsX80, w ∈ vsX8_read := fun w h => List.mem_cons_of_mem _ (List.mem_append_right _ (List.mem_append_left _ h))
theorem gX8_read_X8_isTerm : GoodIn vsX8_read (wsV RX8 83 RX8 yX8_isTerm vsX8_isTerm) := fun w h => ⟨List.mem_cons_of_mem _ (List.mem_append_right _ (List.mem_append_right _ (List.mem_append_left _ h))), gd_V gd_X8_isTerm w h⟩
theorem gX8_read_X8_faultOf : GoodIn vsX8_read (wsV RX8 110 RX8 yX8_faultOf vsX8_faultOf) := fun w h => ⟨List.mem_cons_of_mem _ (List.mem_append_right _ (List.mem_append_right _ (List.mem_append_right _ (List.mem_append_left _ h)))), gd_V gd_X8_faultOf w h⟩
theorem gX8_read_X8_beginAt : GoodIn vsX8_read (wsV RX8 129 RX8 yX8_beginAt vsX8_beginAt) := fun w h => ⟨List.mem_cons_of_mem _ (List.mem_append_right _ (List.mem_append_right _ (List.mem_append_right _ (List.mem_append_right _ (List.mem_append_left _ h))))), gd_V gd_X8_beginAt w h⟩
theorem gX8_read_X8_go : GoodIn vsX8_read (wsV RX8 132 RX8 yX8_go vsX8_go) := fun w h => ⟨List.mem_cons_of_mem _ (List.mem_append_right _ (List.mem_append_right _ (List.mem_append_right _ (List.mem_append_right _ (List.mem_append_right _ (List.mem_append_left _ h)))))), gd_V gd_X8_go w h⟩
theorem gX8_read_X8_fail : GoodIn vsX8_read (wsV RX8 135 RX8 yX8_fail vsX8_fail) := fun w h => ⟨List.mem_cons_of_mem _ (List.mem_append_right _ (List.mem_append_right _ (List.mem_append_right _ (List.mem_append_right _ (List.mem_append_right _ (List.mem_append_right _ (List.mem_append_left _ h))))))), gd_V gd_X8_fail w h⟩
def vsX8_step_o : List Cond := [.fieldLink RX8 138 "GuardedGrammarModel" "steps" "I", .fieldLink RX8 73 "GuardedGrammarModel" "thrown" "I", .fieldLink RX8 51 "GuardedGrammarModel" "trace" "[I"]
set_option maxRecDepth 20000 in
theorem vsX8_step_oin : ∀ w ∈ vsX8_step_o, w ∈ lw_tbl := wsL_mem _ [841, 825, 842] (by decide +kernel)
def vsX8_step : List Cond := .code yX8_step cX8_step 2 (some .int) :: (vsX8_step_o ++ (wsX80 ++ ([] : List Cond)))
theorem gd_X8_step : ∀ w ∈ vsX8_step, gdW w := gd_cons rfl (gd_app (gd_all (by decide +kernel)) (gd_app (gd_ws) gd_nil))
set_option maxRecDepth 20000 in
theorem in_X8_step : ∀ w ∈ vsX8_step, w ∈ lw_tbl := in_cons (List.mem_of_getElem? (i := 1033) (by decide +kernel)) (in_app (vsX8_step_oin) (in_app (wsX80_in) in_nil))
theorem mX8_step_o : ∀ w ∈ vsX8_step_o, w ∈ vsX8_step := fun w h => List.mem_cons_of_mem _ (List.mem_append_left _ h)
theorem mX8_step_wsX80 : ∀ w ∈ wsX80, w ∈ vsX8_step := fun w h => List.mem_cons_of_mem _ (List.mem_append_right _ (List.mem_append_left _ h))
def vsX8_stopped_o : List Cond := [.fieldLink RX8 73 "GuardedGrammarModel" "thrown" "I", .fieldLink RX8 47 "GuardedGrammarModel" "at" "I"]
set_option maxRecDepth 20000 in
theorem vsX8_stopped_oin : ∀ w ∈ vsX8_stopped_o, w ∈ lw_tbl := wsL_mem _ [825, 840] (by decide +kernel)
def vsX8_stopped : List Cond := .code yX8_stopped cX8_stopped 1 (some .int) :: (vsX8_stopped_o ++ (wsX80 ++ ([] : List Cond)))
theorem gd_X8_stopped : ∀ w ∈ vsX8_stopped, gdW w := gd_cons rfl (gd_app (gd_all (by decide +kernel)) (gd_app (gd_ws) gd_nil))
set_option maxRecDepth 20000 in
theorem in_X8_stopped : ∀ w ∈ vsX8_stopped, w ∈ lw_tbl := in_cons (List.mem_of_getElem? (i := 1025) (by decide +kernel)) (in_app (vsX8_stopped_oin) (in_app (wsX80_in) in_nil))
theorem mX8_stopped_o : ∀ w ∈ vsX8_stopped_o, w ∈ vsX8_stopped := fun w h => List.mem_cons_of_mem _ (List.mem_append_left _ h)
theorem mX8_stopped_wsX80 : ∀ w ∈ wsX80, w ∈ vsX8_stopped := fun w h => List.mem_cons_of_mem _ (List.mem_append_right _ (List.mem_append_left _ h))
def vsX8_terms_o : List Cond := [.fieldLink RX8 73 "GuardedGrammarModel" "thrown" "I", .fieldLink RX8 76 "GuardedGrammarModel" "terms" "I"]
set_option maxRecDepth 20000 in
theorem vsX8_terms_oin : ∀ w ∈ vsX8_terms_o, w ∈ lw_tbl := wsL_mem _ [825, 826] (by decide +kernel)
def vsX8_terms : List Cond := .code yX8_terms cX8_terms 1 (some .int) :: (vsX8_terms_o ++ (wsX80 ++ ([] : List Cond)))
theorem gd_X8_terms : ∀ w ∈ vsX8_terms, gdW w := gd_cons rfl (gd_app (gd_all (by decide +kernel)) (gd_app (gd_ws) gd_nil))
set_option maxRecDepth 20000 in
theorem in_X8_terms : ∀ w ∈ vsX8_terms, w ∈ lw_tbl := in_cons (List.mem_of_getElem? (i := 949) (by decide +kernel)) (in_app (vsX8_terms_oin) (in_app (wsX80_in) in_nil))
theorem mX8_terms_o : ∀ w ∈ vsX8_terms_o, w ∈ vsX8_terms := fun w h => List.mem_cons_of_mem _ (List.mem_append_left _ h)
theorem mX8_terms_wsX80 : ∀ w ∈ wsX80, w ∈ vsX8_terms := fun w h => List.mem_cons_of_mem _ (List.mem_append_right _ (List.mem_append_left _ h))
def vsX8_thrown_o : List Cond := [.fieldLink RX8 73 "GuardedGrammarModel" "thrown" "I"]
set_option maxRecDepth 20000 in
theorem vsX8_thrown_oin : ∀ w ∈ vsX8_thrown_o, w ∈ lw_tbl := wsL_mem _ [825] (by decide +kernel)
def vsX8_thrown : List Cond := .code yX8_thrown cX8_thrown 1 (some .int) :: (vsX8_thrown_o ++ (wsX80 ++ ([] : List Cond)))
theorem gd_X8_thrown : ∀ w ∈ vsX8_thrown, gdW w := gd_cons rfl (gd_app (gd_all (by decide +kernel)) (gd_app (gd_ws) gd_nil))
set_option maxRecDepth 20000 in
theorem in_X8_thrown : ∀ w ∈ vsX8_thrown, w ∈ lw_tbl := in_cons (List.mem_of_getElem? (i := 913) (by decide +kernel)) (in_app (vsX8_thrown_oin) (in_app (wsX80_in) in_nil))
theorem mX8_thrown_o : ∀ w ∈ vsX8_thrown_o, w ∈ vsX8_thrown := fun w h => List.mem_cons_of_mem _ (List.mem_append_left _ h)
theorem mX8_thrown_wsX80 : ∀ w ∈ wsX80, w ∈ vsX8_thrown := fun w h => List.mem_cons_of_mem _ (List.mem_append_right _ (List.mem_append_left _ h))
def vsX8_trace_o : List Cond := [.fieldLink RX8 73 "GuardedGrammarModel" "thrown" "I", .fieldLink RX8 138 "GuardedGrammarModel" "steps" "I"]
set_option maxRecDepth 20000 in
theorem vsX8_trace_oin : ∀ w ∈ vsX8_trace_o, w ∈ lw_tbl := wsL_mem _ [825, 841] (by decide +kernel)
def vsX8_trace : List Cond := .code yX8_trace cX8_trace 1 (some .int) :: (vsX8_trace_o ++ (wsX80 ++ ([] : List Cond)))
theorem gd_X8_trace : ∀ w ∈ vsX8_trace, gdW w := gd_cons rfl (gd_app (gd_all (by decide +kernel)) (gd_app (gd_ws) gd_nil))
set_option maxRecDepth 20000 in
theorem in_X8_trace : ∀ w ∈ vsX8_trace, w ∈ lw_tbl := in_cons (List.mem_of_getElem? (i := 1029) (by decide +kernel)) (in_app (vsX8_trace_oin) (in_app (wsX80_in) in_nil))
theorem mX8_trace_o : ∀ w ∈ vsX8_trace_o, w ∈ vsX8_trace := fun w h => List.mem_cons_of_mem _ (List.mem_append_left _ h)
theorem mX8_trace_wsX80 : ∀ w ∈ wsX80, w ∈ vsX8_trace := fun w h => List.mem_cons_of_mem _ (List.mem_append_right _ (List.mem_append_left _ h))
def vsX8_type_o : List Cond := [.fieldLink RX8 73 "GuardedGrammarModel" "thrown" "I", .fieldLink RX8 32 "GuardedGrammarModel" "first" "[I", .fieldLink RX8 35 "GuardedGrammarModel" "after" "[I", .fieldLink RX8 28 "GuardedGrammarModel" "nullable" "[Z"]
set_option maxRecDepth 20000 in
theorem vsX8_type_oin : ∀ w ∈ vsX8_type_o, w ∈ lw_tbl := wsL_mem _ [825, 834, 835, 833] (by decide +kernel)
def vsX8_type : List Cond := .code yX8_type cX8_type 3 (some .int) :: (vsX8_type_o ++ (wsX80 ++ (wsV RX8 83 RX8 yX8_isTerm vsX8_isTerm ++ (wsV RX8 110 RX8 yX8_faultOf vsX8_faultOf ++ ([] : List Cond)))))
theorem gd_X8_type : ∀ w ∈ vsX8_type, gdW w := gd_cons rfl (gd_app (gd_all (by decide +kernel)) (gd_app (gd_ws) (gd_app (gd_V gd_X8_isTerm) (gd_app (gd_V gd_X8_faultOf) gd_nil))))
set_option maxRecDepth 20000 in
theorem in_X8_type : ∀ w ∈ vsX8_type, w ∈ lw_tbl := in_cons (List.mem_of_getElem? (i := 985) (by decide +kernel)) (in_app (vsX8_type_oin) (in_app (wsX80_in) (in_app (in_app (wsL_mem _ [930, 932, 33, 61] (by decide +kernel)) in_X8_isTerm) (in_app (in_app (wsL_mem _ [954, 956, 35, 61] (by decide +kernel)) in_X8_faultOf) in_nil))))
theorem mX8_type_o : ∀ w ∈ vsX8_type_o, w ∈ vsX8_type := fun w h => List.mem_cons_of_mem _ (List.mem_append_left _ h)
theorem mX8_type_wsX80 : ∀ w ∈ wsX80, w ∈ vsX8_type := fun w h => List.mem_cons_of_mem _ (List.mem_append_right _ (List.mem_append_left _ h))
theorem gX8_type_X8_isTerm : GoodIn vsX8_type (wsV RX8 83 RX8 yX8_isTerm vsX8_isTerm) := fun w h => ⟨List.mem_cons_of_mem _ (List.mem_append_right _ (List.mem_append_right _ (List.mem_append_left _ h))), gd_V gd_X8_isTerm w h⟩
theorem gX8_type_X8_faultOf : GoodIn vsX8_type (wsV RX8 110 RX8 yX8_faultOf vsX8_faultOf) := fun w h => ⟨List.mem_cons_of_mem _ (List.mem_append_right _ (List.mem_append_right _ (List.mem_append_right _ (List.mem_append_left _ h)))), gd_V gd_X8_faultOf w h⟩
def vsX8_variable_o : List Cond := [.fieldLink RX8 76 "GuardedGrammarModel" "terms" "I", .fieldLink RX8 73 "GuardedGrammarModel" "thrown" "I"]
set_option maxRecDepth 20000 in
theorem vsX8_variable_oin : ∀ w ∈ vsX8_variable_o, w ∈ lw_tbl := wsL_mem _ [826, 825] (by decide +kernel)
def vsX8_variable : List Cond := .code yX8_variable cX8_variable 2 (some .int) :: (vsX8_variable_o ++ (wsX80 ++ (wsV RX8 79 RX8 yX8_add vsX8_add ++ ([] : List Cond))))
theorem gd_X8_variable : ∀ w ∈ vsX8_variable, gdW w := gd_cons rfl (gd_app (gd_all (by decide +kernel)) (gd_app (gd_ws) (gd_app (gd_V gd_X8_add) gd_nil)))
set_option maxRecDepth 20000 in
theorem in_X8_variable : ∀ w ∈ vsX8_variable, w ∈ lw_tbl := in_cons (List.mem_of_getElem? (i := 925) (by decide +kernel)) (in_app (vsX8_variable_oin) (in_app (wsX80_in) (in_app (in_app (wsL_mem _ [918, 920, 32, 61] (by decide +kernel)) in_X8_add) in_nil)))
theorem mX8_variable_o : ∀ w ∈ vsX8_variable_o, w ∈ vsX8_variable := fun w h => List.mem_cons_of_mem _ (List.mem_append_left _ h)
theorem mX8_variable_wsX80 : ∀ w ∈ wsX80, w ∈ vsX8_variable := fun w h => List.mem_cons_of_mem _ (List.mem_append_right _ (List.mem_append_left _ h))
theorem gX8_variable_X8_add : GoodIn vsX8_variable (wsV RX8 79 RX8 yX8_add vsX8_add) := fun w h => ⟨List.mem_cons_of_mem _ (List.mem_append_right _ (List.mem_append_right _ (List.mem_append_left _ h))), gd_V gd_X8_add w h⟩
