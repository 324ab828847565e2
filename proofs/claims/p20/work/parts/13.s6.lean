/-- a chart that is filled -/
def X_cht (G : X_G) (m tn : Int) (oK oW oA oH : Int → Int64) : Prop := ∀ i j, 0 ≤ i → i < j → j ≤ tn → X_rw G m i j oK oW oA oH
theorem X_El_jj {G : X_G} {w j : Int} (hp : X_pw G w) (h0 : gW G w 0 = 0) : X_Ew G (X_T_ G) w (0 + 1) j j = 0 := X_Ew_0 (by
  rcases hp.2 with h | h
  · omega
  · exact absurd h0 h)
