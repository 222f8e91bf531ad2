theorem goodIn_one {big b : List Cond} {c : Cond} (hc : GoodIn big [c]) (hb : GoodIn big b) : GoodIn big (c :: b) := fun w h => (List.mem_cons.mp h).elim (fun e => hc w (by rw [e]; exact List.mem_cons_self)) (hb w)
set_option maxRecDepth 20000 in
theorem gib_c : GoodIn wsL_law [.codeWith yL_build cL_build 15 (some (.array .int)) [(731, 741, 744, 35)]] := goodIn_r _ [46] (by decide +kernel) (by decide +kernel)
