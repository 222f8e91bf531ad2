theorem goodIn_one {big b : List Cond} {c : Cond} (hc : GoodIn big [c]) (hb : GoodIn big b) : GoodIn big (c :: b) := fun w h => (List.mem_cons.mp h).elim (fun e => hc w (by rw [e]; exact List.mem_cons_self)) (hb w)
theorem gib_c : GoodIn wsL_law [.codeWith yL_build cL_build 15 (some (.array .int)) [(731, 741, 744, 35)]] := goodIn_sub (fun w h => by
  rw [List.mem_singleton.mp h]
  have h : (Cond.codeWith yL_build cL_build 15 (some (.array .int)) [(731, 741, 744, 35)] : Cond) ∈ wsL_law0_r2 := List.mem_of_getElem? (i := 22) rfl
  exact List.mem_append_left _ (List.mem_append_left _ (List.mem_append_left _ (show _ ∈ wsL_law0 from List.mem_append_left _ (List.mem_append_left _ (List.mem_append_left _ (List.mem_append_left _ (List.mem_append_left _ (List.mem_append_left _ (List.mem_append_left _ (List.mem_append_left _ (List.mem_append_left _ (List.mem_append_left _ (List.mem_append_right _ (List.mem_append_left _ (h)))))))))))))))) (by decide +kernel)
