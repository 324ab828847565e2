theorem X_pus_s {G : X_G} {w node h : Int} {HF HE : Int → Int} {l : Nat} {s : Int × (Int → X_It)} (h0 : 0 ≤ h) : X_pus G w node HF HE (h + 1).toNat l s = X_pus G w node HF HE h.toNat (l / X_Hh G w h (HF h) (HE h)) (s.1 + 1, X_ug s.2 s.1 (HF h, HE h, node, h, gD G w 9 h, w, X_eh G w h, l % X_Hh G w h (HF h) (HE h))) := by
  rw [show (h + 1).toNat = h.toNat + 1 by omega]
  show X_pus G w node HF HE h.toNat (l / X_Hh G w ((h.toNat : Nat) : Int) (HF ((h.toNat : Nat) : Int)) (HE ((h.toNat : Nat) : Int))) (s.1 + 1, X_ug s.2 s.1 (HF ((h.toNat : Nat) : Int), HE ((h.toNat : Nat) : Int), node, ((h.toNat : Nat) : Int), gD G w 9 ((h.toNat : Nat) : Int), w, X_eh G w ((h.toNat : Nat) : Int), l % X_Hh G w ((h.toNat : Nat) : Int) (HF ((h.toNat : Nat) : Int)) (HE ((h.toNat : Nat) : Int)))) = _
  rw [show ((h.toNat : Nat) : Int) = h by omega]
/-- what a hole takes, by its number -/
theorem X_gw.bits {G : X_G} {w h : Int} (hg : X_gw G w) (h1 : 0 ≤ h) (h2 : h < gD G w 4 0) (hG : X_Gok G) : (∀ v, 0 ≤ v → v < gw G → (X_bt (gD G w 10 h) v ↔ X_bt (ga G (gD G v 2 0)) (gD G w 9 h) ∧ X_lt G w (X_eh G w h) v)) ∧ (∀ z, 0 ≤ z → z < gk G → (X_bt (gD G w 11 h) z ↔ X_bt (ga G z) (gD G w 9 h))) := by
  obtain ⟨e, he1, he2, he3, he4⟩ := hg.ex h1 h2
  have c1 := hG.1
  have c2 := hG.2.1
  obtain ⟨b1, b2⟩ := hg.2.2.2.2.2.2.2.2.2.2 e he1 he2 he3
  rw [X_eo_h hg he1 he2 he3, he4] at b2
  rw [he4] at b1
  exact ⟨fun v g1 g2 => by rw [b2 v g1 (by omega)]; exact ⟨fun z => z.2, fun z => ⟨g2, z⟩⟩, fun v g1 g2 => by rw [b1 v g1 (by omega)]; exact ⟨fun z => z.2, fun z => ⟨g2, z⟩⟩⟩
theorem X_rw.hh {G : X_G} {m i j w h : Int} {oK oW oA oH : Int → Int64} (hr : X_rw G m i j oK oW oA oH) (hw : 0 ≤ w ∧ w < gw G) (hg : X_gw G w) (h1 : 0 ≤ h) (h2 : h < gD G w 4 0) : oH ((X_ro i j * 30 + w) * 4 + h) = X_st m (X_Hh G w h i j) := by
  obtain ⟨e, he1, he2, he3, he4⟩ := hg.ex h1 h2
  have := hr.2.2.2 w hw.1 hw.2 e he1 he2 he3
  rw [X_Hw_h hg he1 he2 he3, he4] at this
  exact this
