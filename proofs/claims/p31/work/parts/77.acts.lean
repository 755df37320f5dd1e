set_option maxRecDepth 100000 in
set_option maxHeartbeats 4000000 in
/-- L_acts -/
theorem c_L_acts (l : Launch) (D : va_G) (cI cC cJ cG : ClassId) (sz : Nat) (ad : Nat → Nat) (u : ST) (v : HX) (x : CX) (bd : Nat → Nat) (y : MX) (vv : Int32) (hla : LA u v y) (hh : s_hc u + 4 ≤ 400) : k9i l yL_acts wsL_acts ({ frames := 40, cells := 24, slots := 240, locals := 1500 }) D (kty cI cC cJ cG) [.ref (ad 0), .ref (bd 0), .int vv] (wX cI cC ad u v x ++ wM cI cC bd u y) sz 24 240 (fun (r : Int32) ((u2, v2, x2, y2) : ST × HX × CX × MX) => r = 1 ∧ LA u2 v2 y2 ∧ s_hc u2 ≤ s_hc u + 4) (fun ((u2, v2, x2, y2) : ST × HX × CX × MX) => wX cI cC ad u2 v2 x2 ++ wM cI cC bd u2 y2) := by
  have h8 := lo_lt vv (N := 8) (by decide)
  rcases (show lo_ vv 8 ≤ 1 ∨ lo_ vv 8 = 2 ∨ lo_ vv 8 = 3 ∨ lo_ vv 8 = 4 ∨ lo_ vv 8 = 5 ∨ 5 < lo_ vv 8 by omega) with hc | hc | hc | hc | hc | hc
  · exact c_L_acts_order l D cI cC cJ cG  sz ad u v x bd y vv hla hh hc
  · exact c_L_acts_change l D cI cC cJ cG  sz ad u v x bd y vv hla hh hc
  · exact c_L_acts_share l D cI cC cJ cG  sz ad u v x bd y vv hla hh hc
  · exact c_L_acts_contract l D cI cC cJ cG  sz ad u v x bd y vv hla hh hc
  · exact c_L_acts_width l D cI cC cJ cG  sz ad u v x bd y vv hla hh hc
  · exact c_L_acts_pass l D cI cC cJ cG  sz ad u v x bd y vv hla hh hc
