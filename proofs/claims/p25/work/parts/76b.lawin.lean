def wsL_law0_r2a : List Cond := [Cond.fieldLink RX6 19 "GearTrains" "meshes" "Ljava/util/ArrayList;", Cond.fieldLink RX6 22 "GearTrains" "sets" "Ljava/util/ArrayList;", Cond.fieldLink RX6 25 "GearTrains" "driver" "I", Cond.fieldLink RX6 29 "GearTrains" "driverSpeed" "I", Cond.methodLink RX6 11 yJx4a65c_init_da8c8, Cond.instanceMethod yJx4a65c_init_da8c8, Cond.code yJx4a65c_init_da8c8 cJx4a65c_init_da8c8 1 none, Cond.fieldLink RJx4a65c 39 "java/util/ArrayList" "DEFAULTCAPACITY_EMPTY_ELEMENTDATA" "[Ljava/lang/Object;", Cond.fieldLink RJx4a65c 9 "java/util/ArrayList" "elementData" "[Ljava/lang/Object;", Cond.methodLink RJx4a65c 1 yJxc12de_init_da8c8, Cond.instanceMethod yJxc12de_init_da8c8, Cond.initialized RJxc12de, Cond.code yJxc12de_init_da8c8 cJxc12de_init_da8c8 1 none, Cond.fieldLink RJxc12de 7 "java/util/AbstractList" "modCount" "I", Cond.methodLink RJxc12de 1 yJxa1e45_init_da8c8, Cond.instanceMethod yJxa1e45_init_da8c8, Cond.initialized RJxa1e45, Cond.code yJxa1e45_init_da8c8 cJxa1e45_init_da8c8 1 none, Cond.methodLink RJxa1e45 1 objectInit, Cond.methodLink RL 76 yL_build, Cond.static yL_build, Cond.initialized RL]
def wsL_law0_r2b : List Cond := [Cond.classLink RL 35 "java/lang/IllegalArgumentException"]
theorem lin_2a : ∀ w ∈ wsL_law0_r2a, w ∈ lw_tbl := fun w h => (goodIn_p wsL_law0_r2a [49, 52, 55] (by decide +kernel) (by decide +kernel) w h).1
theorem lin_2b : ∀ w ∈ wsL_law0_r2b, w ∈ lw_tbl := fun w h => (goodIn_p wsL_law0_r2b [] (by decide +kernel) (by decide +kernel) w h).1
theorem lin_2c : (Cond.codeWith yL_build cL_build 15 (some (.array .int)) [(731, 741, 744, 35)] : Cond) ∈ lw_tbl := by
  unfold lw_tbl
  exact List.mem_append_right _ (List.mem_of_getElem? (i := 239) rfl)
theorem lin_2 : ∀ w ∈ wsL_law0_r2, w ∈ lw_tbl := fun w h => by
  have h : w ∈ wsL_law0_r2a ++ (Cond.codeWith yL_build cL_build 15 (some (.array .int)) [(731, 741, 744, 35)]) :: wsL_law0_r2b := h
  rcases List.mem_append.mp h with h | h
  · exact lin_2a w h
  · rcases List.mem_cons.mp h with h | h
    · rw [h]; exact lin_2c
    · exact lin_2b w h
