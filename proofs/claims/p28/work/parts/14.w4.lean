def wsJ7_rangeCheck_23922 : List Cond := .code yJ7_rangeCheck_23922 cJ7_rangeCheck_23922 3 none :: (([] : List Cond))
theorem goJ7_rangeCheck_23922 : ∀ w ∈ wsJ7_rangeCheck_23922, goP w := by
  unfold wsJ7_rangeCheck_23922
  exact List.forall_mem_cons.mpr ⟨good_of_word (by decide +kernel), go_all (by decide +kernel)⟩
set_option maxRecDepth 20000 in
theorem inJ7_rangeCheck_23922 : ∀ w ∈ wsJ7_rangeCheck_23922, w ∈ lw_tbl := by
  unfold wsJ7_rangeCheck_23922
  exact List.forall_mem_cons.mpr ⟨mT2 _ (List.mem_of_getElem? (i := 43) rfl), (fun _ h => by cases h)⟩
def wsJ7_fill_fda19 : List Cond := .code yJ7_fill_fda19 cJ7_fill_fda19 5 none :: (([.methodLink RJ7 13 yJ7_rangeCheck_23922, .static yJ7_rangeCheck_23922, .initialized RJ7] : List Cond) ++ (wsJ7_rangeCheck_23922))
theorem goJ7_fill_fda19 : ∀ w ∈ wsJ7_fill_fda19, goP w := by
  unfold wsJ7_fill_fda19
  exact List.forall_mem_cons.mpr ⟨good_of_word (by decide +kernel), List.forall_mem_append.mpr ⟨go_all (by decide +kernel), goJ7_rangeCheck_23922⟩⟩
theorem gJ7_fill_fda19_J7_rangeCheck_23922_13 : GoodIn wsJ7_fill_fda19 (va_wsS RJ7 13 yJ7_rangeCheck_23922 wsJ7_rangeCheck_23922) := (go_c (w := .methodLink RJ7 13 yJ7_rangeCheck_23922) (List.mem_of_getElem? (i := 1) rfl) (by decide +kernel) (go_c (w := .static yJ7_rangeCheck_23922) (List.mem_of_getElem? (i := 2) rfl) (by decide +kernel) (go_c (w := .initialized RJ7) (List.mem_of_getElem? (i := 3) rfl) (by decide +kernel) (fun w h => ⟨(List.mem_cons_of_mem _ (List.mem_append_right _ h)), goJ7_rangeCheck_23922 w h⟩))))
set_option maxRecDepth 20000 in
theorem inJ7_fill_fda19 : ∀ w ∈ wsJ7_fill_fda19, w ∈ lw_tbl := by
  unfold wsJ7_fill_fda19
  exact List.forall_mem_cons.mpr ⟨mT2 _ (List.mem_of_getElem? (i := 40) rfl), List.forall_mem_append.mpr ⟨(List.forall_mem_cons.mpr ⟨mT2 _ (List.mem_of_getElem? (i := 41) rfl), (List.forall_mem_cons.mpr ⟨mT2 _ (List.mem_of_getElem? (i := 42) rfl), (List.forall_mem_cons.mpr ⟨mT1 _ (List.mem_of_getElem? (i := 14) rfl), (fun _ h => by cases h)⟩)⟩)⟩), inJ7_rangeCheck_23922⟩⟩
def wsX4_init : List Cond := .code yX4_init cX4_init 3 none :: (([.methodLink RX4 3 objectInit, .instanceMethod objectInit, .code objectInit ⟨#[0xb1]⟩ 1 none, .fieldLink RX4 9 "SpeedTurns$Table" "columns" "I", .methodLink RX4 15 Lib.Math.max.name, .static Lib.Math.max.name, .initialized "java/lang/Math", .code Lib.Math.max.name Lib.Math.max.code 2 (some .int), .arrayClass .int, .fieldLink RX4 21 "SpeedTurns$Table" "cells" "[I", .fieldLink RX4 25 "SpeedTurns$Table" "rows" "I"] : List Cond) ++ (u_ws RX4 TX4 3))
theorem huX4_init_X4 : ∀ w ∈ u_ws RX4 TX4 3, w ∈ wsX4_init := fun w h => (List.mem_cons_of_mem _ (List.mem_append_right _ h))
theorem goX4_init : ∀ w ∈ wsX4_init, goP w := by
  unfold wsX4_init
  exact List.forall_mem_cons.mpr ⟨good_of_word (by decide +kernel), List.forall_mem_append.mpr ⟨go_all (by decide +kernel), gou_X4⟩⟩
set_option maxRecDepth 20000 in
theorem inX4_init : ∀ w ∈ wsX4_init, w ∈ lw_tbl := by
  unfold wsX4_init
  exact List.forall_mem_cons.mpr ⟨mT1 _ (List.mem_of_getElem? (i := 34) rfl), List.forall_mem_append.mpr ⟨(List.forall_mem_cons.mpr ⟨mT1 _ (List.mem_of_getElem? (i := 35) rfl), (List.forall_mem_cons.mpr ⟨mT1 _ (List.mem_of_getElem? (i := 22) rfl), (List.forall_mem_cons.mpr ⟨mT1 _ (List.mem_of_getElem? (i := 23) rfl), (List.forall_mem_cons.mpr ⟨mT1 _ (List.mem_of_getElem? (i := 39) rfl), (List.forall_mem_cons.mpr ⟨mT1 _ (List.mem_of_getElem? (i := 36) rfl), (List.forall_mem_cons.mpr ⟨mT1 _ (List.mem_of_getElem? (i := 37) rfl), (List.forall_mem_cons.mpr ⟨mT1 _ (List.mem_of_getElem? (i := 4) rfl), (List.forall_mem_cons.mpr ⟨mT1 _ (List.mem_of_getElem? (i := 38) rfl), (List.forall_mem_cons.mpr ⟨mT1 _ (List.mem_of_getElem? (i := 49) rfl), (List.forall_mem_cons.mpr ⟨mT1 _ (List.mem_of_getElem? (i := 40) rfl), (List.forall_mem_cons.mpr ⟨mT1 _ (List.mem_of_getElem? (i := 41) rfl), (fun _ h => by cases h)⟩)⟩)⟩)⟩)⟩)⟩)⟩)⟩)⟩)⟩)⟩), inu_X4⟩⟩
def wsX4_count : List Cond := .code yX4_count cX4_count 1 (some .int) :: (([.fieldLink RX4 25 "SpeedTurns$Table" "rows" "I"] : List Cond) ++ (u_ws RX4 TX4 3))
theorem huX4_count_X4 : ∀ w ∈ u_ws RX4 TX4 3, w ∈ wsX4_count := fun w h => (List.mem_cons_of_mem _ (List.mem_append_right _ h))
theorem goX4_count : ∀ w ∈ wsX4_count, goP w := by
  unfold wsX4_count
  exact List.forall_mem_cons.mpr ⟨good_of_word (by decide +kernel), List.forall_mem_append.mpr ⟨go_all (by decide +kernel), gou_X4⟩⟩
set_option maxRecDepth 20000 in
theorem inX4_count : ∀ w ∈ wsX4_count, w ∈ lw_tbl := by
  unfold wsX4_count
  exact List.forall_mem_cons.mpr ⟨mT1 _ (List.mem_of_getElem? (i := 222) rfl), List.forall_mem_append.mpr ⟨(List.forall_mem_cons.mpr ⟨mT1 _ (List.mem_of_getElem? (i := 41) rfl), (fun _ h => by cases h)⟩), inu_X4⟩⟩
def wsX4_isFull : List Cond := .code yX4_isFull cX4_isFull 1 (some .boolean) :: (([.fieldLink RX4 25 "SpeedTurns$Table" "rows" "I", .fieldLink RX4 9 "SpeedTurns$Table" "columns" "I", .fieldLink RX4 21 "SpeedTurns$Table" "cells" "[I"] : List Cond) ++ (u_ws RX4 TX4 3))
theorem huX4_isFull_X4 : ∀ w ∈ u_ws RX4 TX4 3, w ∈ wsX4_isFull := fun w h => (List.mem_cons_of_mem _ (List.mem_append_right _ h))
theorem goX4_isFull : ∀ w ∈ wsX4_isFull, goP w := by
  unfold wsX4_isFull
  exact List.forall_mem_cons.mpr ⟨good_of_word (by decide +kernel), List.forall_mem_append.mpr ⟨go_all (by decide +kernel), gou_X4⟩⟩
set_option maxRecDepth 20000 in
theorem inX4_isFull : ∀ w ∈ wsX4_isFull, w ∈ lw_tbl := by
  unfold wsX4_isFull
  exact List.forall_mem_cons.mpr ⟨mT3 _ (List.mem_of_getElem? (i := 15) rfl), List.forall_mem_append.mpr ⟨(List.forall_mem_cons.mpr ⟨mT1 _ (List.mem_of_getElem? (i := 41) rfl), (List.forall_mem_cons.mpr ⟨mT1 _ (List.mem_of_getElem? (i := 39) rfl), (List.forall_mem_cons.mpr ⟨mT1 _ (List.mem_of_getElem? (i := 40) rfl), (fun _ h => by cases h)⟩)⟩)⟩), inu_X4⟩⟩
def wsX4_at : List Cond := .code yX4_at cX4_at 4 (some .int) :: (([.fieldLink RX4 25 "SpeedTurns$Table" "rows" "I", .fieldLink RX4 9 "SpeedTurns$Table" "columns" "I", .fieldLink RX4 21 "SpeedTurns$Table" "cells" "[I"] : List Cond) ++ (u_ws RX4 TX4 3))
theorem huX4_at_X4 : ∀ w ∈ u_ws RX4 TX4 3, w ∈ wsX4_at := fun w h => (List.mem_cons_of_mem _ (List.mem_append_right _ h))
theorem goX4_at : ∀ w ∈ wsX4_at, goP w := by
  unfold wsX4_at
  exact List.forall_mem_cons.mpr ⟨good_of_word (by decide +kernel), List.forall_mem_append.mpr ⟨go_all (by decide +kernel), gou_X4⟩⟩
set_option maxRecDepth 20000 in
theorem inX4_at : ∀ w ∈ wsX4_at, w ∈ lw_tbl := by
  unfold wsX4_at
  exact List.forall_mem_cons.mpr ⟨mT2 _ (List.mem_of_getElem? (i := 87) rfl), List.forall_mem_append.mpr ⟨(List.forall_mem_cons.mpr ⟨mT1 _ (List.mem_of_getElem? (i := 41) rfl), (List.forall_mem_cons.mpr ⟨mT1 _ (List.mem_of_getElem? (i := 39) rfl), (List.forall_mem_cons.mpr ⟨mT1 _ (List.mem_of_getElem? (i := 40) rfl), (fun _ h => by cases h)⟩)⟩)⟩), inu_X4⟩⟩
def wsX4_put : List Cond := .code yX4_put cX4_put 5 none :: (([.fieldLink RX4 25 "SpeedTurns$Table" "rows" "I", .fieldLink RX4 9 "SpeedTurns$Table" "columns" "I", .fieldLink RX4 21 "SpeedTurns$Table" "cells" "[I"] : List Cond) ++ (u_ws RX4 TX4 3))
theorem huX4_put_X4 : ∀ w ∈ u_ws RX4 TX4 3, w ∈ wsX4_put := fun w h => (List.mem_cons_of_mem _ (List.mem_append_right _ h))
theorem goX4_put : ∀ w ∈ wsX4_put, goP w := by
  unfold wsX4_put
  exact List.forall_mem_cons.mpr ⟨good_of_word (by decide +kernel), List.forall_mem_append.mpr ⟨go_all (by decide +kernel), gou_X4⟩⟩
set_option maxRecDepth 20000 in
theorem inX4_put : ∀ w ∈ wsX4_put, w ∈ lw_tbl := by
  unfold wsX4_put
  exact List.forall_mem_cons.mpr ⟨mT2 _ (List.mem_of_getElem? (i := 47) rfl), List.forall_mem_append.mpr ⟨(List.forall_mem_cons.mpr ⟨mT1 _ (List.mem_of_getElem? (i := 41) rfl), (List.forall_mem_cons.mpr ⟨mT1 _ (List.mem_of_getElem? (i := 39) rfl), (List.forall_mem_cons.mpr ⟨mT1 _ (List.mem_of_getElem? (i := 40) rfl), (fun _ h => by cases h)⟩)⟩)⟩), inu_X4⟩⟩
def wsX4_insert : List Cond := .code yX4_insert cX4_insert 4 none :: (([.fieldLink RX4 25 "SpeedTurns$Table" "rows" "I", .fieldLink RX4 9 "SpeedTurns$Table" "columns" "I", .fieldLink RX4 21 "SpeedTurns$Table" "cells" "[I", .methodLink RX4 28 arraycopyName, .native arraycopyName, .static arraycopyName, .initialized "java/lang/System", .methodLink RX4 34 yJ7_fill_fda19, .static yJ7_fill_fda19, .initialized RJ7] : List Cond) ++ (u_ws RX4 TX4 3 ++ (wsJ7_fill_fda19)))
theorem huX4_insert_X4 : ∀ w ∈ u_ws RX4 TX4 3, w ∈ wsX4_insert := fun w h => (List.mem_cons_of_mem _ (List.mem_append_right _ (List.mem_append_left _ h)))
theorem goX4_insert : ∀ w ∈ wsX4_insert, goP w := by
  unfold wsX4_insert
  exact List.forall_mem_cons.mpr ⟨good_of_word (by decide +kernel), List.forall_mem_append.mpr ⟨go_all (by decide +kernel), List.forall_mem_append.mpr ⟨gou_X4, goJ7_fill_fda19⟩⟩⟩
theorem gX4_insert_J7_fill_fda19_34 : GoodIn wsX4_insert (va_wsS RX4 34 yJ7_fill_fda19 wsJ7_fill_fda19) := (go_c (w := .methodLink RX4 34 yJ7_fill_fda19) (List.mem_of_getElem? (i := 8) rfl) (by decide +kernel) (go_c (w := .static yJ7_fill_fda19) (List.mem_of_getElem? (i := 9) rfl) (by decide +kernel) (go_c (w := .initialized RJ7) (List.mem_of_getElem? (i := 10) rfl) (by decide +kernel) (fun w h => ⟨(List.mem_cons_of_mem _ (List.mem_append_right _ (List.mem_append_right _ h))), goJ7_fill_fda19 w h⟩))))
set_option maxRecDepth 20000 in
theorem inX4_insert : ∀ w ∈ wsX4_insert, w ∈ lw_tbl := by
  unfold wsX4_insert
  exact List.forall_mem_cons.mpr ⟨mT2 _ (List.mem_of_getElem? (i := 37) rfl), List.forall_mem_append.mpr ⟨(List.forall_mem_cons.mpr ⟨mT1 _ (List.mem_of_getElem? (i := 41) rfl), (List.forall_mem_cons.mpr ⟨mT1 _ (List.mem_of_getElem? (i := 39) rfl), (List.forall_mem_cons.mpr ⟨mT1 _ (List.mem_of_getElem? (i := 40) rfl), (List.forall_mem_cons.mpr ⟨mT2 _ (List.mem_of_getElem? (i := 22) rfl), (List.forall_mem_cons.mpr ⟨mT2 _ (List.mem_of_getElem? (i := 24) rfl), (List.forall_mem_cons.mpr ⟨mT2 _ (List.mem_of_getElem? (i := 23) rfl), (List.forall_mem_cons.mpr ⟨mT1 _ (List.mem_of_getElem? (i := 13) rfl), (List.forall_mem_cons.mpr ⟨mT2 _ (List.mem_of_getElem? (i := 38) rfl), (List.forall_mem_cons.mpr ⟨mT2 _ (List.mem_of_getElem? (i := 39) rfl), (List.forall_mem_cons.mpr ⟨mT1 _ (List.mem_of_getElem? (i := 14) rfl), (fun _ h => by cases h)⟩)⟩)⟩)⟩)⟩)⟩)⟩)⟩)⟩)⟩), List.forall_mem_append.mpr ⟨inu_X4, inJ7_fill_fda19⟩⟩⟩
def wsX4_remove : List Cond := .code yX4_remove cX4_remove 4 none :: (([.fieldLink RX4 25 "SpeedTurns$Table" "rows" "I", .fieldLink RX4 9 "SpeedTurns$Table" "columns" "I", .fieldLink RX4 21 "SpeedTurns$Table" "cells" "[I", .methodLink RX4 28 arraycopyName, .native arraycopyName, .static arraycopyName, .initialized "java/lang/System"] : List Cond) ++ (u_ws RX4 TX4 3))
theorem huX4_remove_X4 : ∀ w ∈ u_ws RX4 TX4 3, w ∈ wsX4_remove := fun w h => (List.mem_cons_of_mem _ (List.mem_append_right _ h))
theorem goX4_remove : ∀ w ∈ wsX4_remove, goP w := by
  unfold wsX4_remove
  exact List.forall_mem_cons.mpr ⟨good_of_word (by decide +kernel), List.forall_mem_append.mpr ⟨go_all (by decide +kernel), gou_X4⟩⟩
set_option maxRecDepth 20000 in
theorem inX4_remove : ∀ w ∈ wsX4_remove, w ∈ lw_tbl := by
  unfold wsX4_remove
  exact List.forall_mem_cons.mpr ⟨mT2 _ (List.mem_of_getElem? (i := 203) rfl), List.forall_mem_append.mpr ⟨(List.forall_mem_cons.mpr ⟨mT1 _ (List.mem_of_getElem? (i := 41) rfl), (List.forall_mem_cons.mpr ⟨mT1 _ (List.mem_of_getElem? (i := 39) rfl), (List.forall_mem_cons.mpr ⟨mT1 _ (List.mem_of_getElem? (i := 40) rfl), (List.forall_mem_cons.mpr ⟨mT2 _ (List.mem_of_getElem? (i := 22) rfl), (List.forall_mem_cons.mpr ⟨mT2 _ (List.mem_of_getElem? (i := 24) rfl), (List.forall_mem_cons.mpr ⟨mT2 _ (List.mem_of_getElem? (i := 23) rfl), (List.forall_mem_cons.mpr ⟨mT1 _ (List.mem_of_getElem? (i := 13) rfl), (fun _ h => by cases h)⟩)⟩)⟩)⟩)⟩)⟩)⟩), inu_X4⟩⟩
def wsX4_clear : List Cond := .code yX4_clear cX4_clear 1 none :: (([.fieldLink RX4 25 "SpeedTurns$Table" "rows" "I"] : List Cond) ++ (u_ws RX4 TX4 3))
theorem huX4_clear_X4 : ∀ w ∈ u_ws RX4 TX4 3, w ∈ wsX4_clear := fun w h => (List.mem_cons_of_mem _ (List.mem_append_right _ h))
theorem goX4_clear : ∀ w ∈ wsX4_clear, goP w := by
  unfold wsX4_clear
  exact List.forall_mem_cons.mpr ⟨good_of_word (by decide +kernel), List.forall_mem_append.mpr ⟨go_all (by decide +kernel), gou_X4⟩⟩
set_option maxRecDepth 20000 in
theorem inX4_clear : ∀ w ∈ wsX4_clear, w ∈ lw_tbl := by
  unfold wsX4_clear
  exact List.forall_mem_cons.mpr ⟨mT2 _ (List.mem_of_getElem? (i := 166) rfl), List.forall_mem_append.mpr ⟨(List.forall_mem_cons.mpr ⟨mT1 _ (List.mem_of_getElem? (i := 41) rfl), (fun _ h => by cases h)⟩), inu_X4⟩⟩
def wsX4_copyFrom : List Cond := .code yX4_copyFrom cX4_copyFrom 2 none :: (([.fieldLink RX4 25 "SpeedTurns$Table" "rows" "I", .fieldLink RX4 21 "SpeedTurns$Table" "cells" "[I", .methodLink RX4 40 Lib.Math.min.name, .static Lib.Math.min.name, .initialized "java/lang/Math", .code Lib.Math.min.name Lib.Math.min.code 2 (some .int), .methodLink RX4 28 arraycopyName, .native arraycopyName, .static arraycopyName, .initialized "java/lang/System"] : List Cond) ++ (u_ws RX4 TX4 3))
theorem huX4_copyFrom_X4 : ∀ w ∈ u_ws RX4 TX4 3, w ∈ wsX4_copyFrom := fun w h => (List.mem_cons_of_mem _ (List.mem_append_right _ h))
theorem goX4_copyFrom : ∀ w ∈ wsX4_copyFrom, goP w := by
  unfold wsX4_copyFrom
  exact List.forall_mem_cons.mpr ⟨good_of_word (by decide +kernel), List.forall_mem_append.mpr ⟨go_all (by decide +kernel), gou_X4⟩⟩
set_option maxRecDepth 20000 in
theorem inX4_copyFrom : ∀ w ∈ wsX4_copyFrom, w ∈ lw_tbl := by
  unfold wsX4_copyFrom
  exact List.forall_mem_cons.mpr ⟨mT2 _ (List.mem_of_getElem? (i := 18) rfl), List.forall_mem_append.mpr ⟨(List.forall_mem_cons.mpr ⟨mT1 _ (List.mem_of_getElem? (i := 41) rfl), (List.forall_mem_cons.mpr ⟨mT1 _ (List.mem_of_getElem? (i := 40) rfl), (List.forall_mem_cons.mpr ⟨mT2 _ (List.mem_of_getElem? (i := 19) rfl), (List.forall_mem_cons.mpr ⟨mT2 _ (List.mem_of_getElem? (i := 20) rfl), (List.forall_mem_cons.mpr ⟨mT1 _ (List.mem_of_getElem? (i := 4) rfl), (List.forall_mem_cons.mpr ⟨mT2 _ (List.mem_of_getElem? (i := 21) rfl), (List.forall_mem_cons.mpr ⟨mT2 _ (List.mem_of_getElem? (i := 22) rfl), (List.forall_mem_cons.mpr ⟨mT2 _ (List.mem_of_getElem? (i := 24) rfl), (List.forall_mem_cons.mpr ⟨mT2 _ (List.mem_of_getElem? (i := 23) rfl), (List.forall_mem_cons.mpr ⟨mT1 _ (List.mem_of_getElem? (i := 13) rfl), (fun _ h => by cases h)⟩)⟩)⟩)⟩)⟩)⟩)⟩)⟩)⟩)⟩), inu_X4⟩⟩
