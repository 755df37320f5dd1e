section KLR
variable {s : State} {D : va_G} {ty : List (ClassId × FieldType)} {A : Nat → Prop}
/-- a loop whose turns take room: what is to be shown may speak of the turn -/
theorem k_loopR {σ : Type} {nL : Nat} {W' : σ → Heap → List Loc → Array Slot → Prop} (I : σ → Prop) (mu : σ → Nat) (w : σ → va_W) (lv : σ → List (Nat × Value)) (x0 : σ) (h0 : I x0)
    (step : ∀ x : σ, I x → (∀ (x' : σ) (H : Heap) (locs : List Loc) (ls : Array Slot), I x' → mu x' < mu x → kW D ty s A (w x') H locs → lv_has ls nL (lv x') → W' x' H locs ls) → ∀ (H : Heap) (locs : List Loc) (ls : Array Slot), kW D ty s A (w x) H locs → lv_has ls nL (lv x) → W' x H locs ls) :
    ∀ (H : Heap) (locs : List Loc) (ls : Array Slot), kW D ty s A (w x0) H locs → lv_has ls nL (lv x0) → W' x0 H locs ls := by
  have K : ∀ (n : Nat) (x : σ), mu x < n → I x → ∀ (H : Heap) (locs : List Loc) (ls : Array Slot), kW D ty s A (w x) H locs → lv_has ls nL (lv x) → W' x H locs ls := by
    intro n
    induction n with
    | zero => intro x h; exact absurd h (Nat.not_lt_zero _)
    | succ n ih =>
      intro x hn hI
      exact step x hI (fun x' H locs ls hI' hm hw hl => ih x' (by omega) hI' H locs ls hw hl)
  exact K (mu x0 + 1) x0 (Nat.lt_succ_self _) h0
end KLR
