theorem k_addU (l : Launch) (A : Nat → Prop) (G : g_C) (w : g_W) (h arr n ci : Nat) (ha : Bool) (mod : Int32) (f : Nat → Option Nat) (hL : listW G w h arr n ci ha mod f) (v : Nat) (r0 : vw_C) (vs : List Value) (hv : w v = some (.inr (ci, vs))) (hci : vwCl[ci]? = some r0) (hcs : (r0.1, "java/lang/Object") ∈ g_casts) (hvh : v ≠ h) : mI l yJx4a65c_add_9ea2d wsJx4a65c_add_9ea2d ({ frames := 6, cells := 1, slots := 100, locals := 210 } : Room) [.ref h, .ref v] A G w (fun r w' => addP G w h arr n ha mod f v w') 1 100 := by
  rcases hL with ⟨h1, h2, h3⟩ | ⟨h1, cap, h2, h3, h4, h5, h6, h7, h8⟩
  · rw [h1, h2]
    exact k_addUF l A G w h arr mod f h3 v ci r0 vs hv hci hcs hvh
  · rw [h1]
    by_cases z : n < cap
    · exact k_addUR l A G w h arr n cap mod f h2 h3 z h5 h6 v ci r0 vs hv hci hcs hvh
    · refine k_addUG l A G w h arr n cap mod f h2 h3 v ci r0 vs hv hci hcs hvh (by omega) h5 (by omega) (fun i hi y hy => ?_)
      obtain ⟨y', fs, e1, e2⟩ := h8 i (by omega)
      rw [e1] at hy
      cases hy
      exact ⟨fs, e2⟩
