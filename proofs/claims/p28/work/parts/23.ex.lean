theorem eL_put {a0 a1 q : Nat → Nat} {w : Nat} (S : Gs a0 a1 q w) {r i t : Nat} (hr : r < 3) (hi : i < 13) (ht : t < 13) : ∃ (v : Int) (b0 b1 q' : Nat → Nat) (w' : Nat), Rs a0 a1 q w v b0 b1 q' w' ∧ ∀ (l : Launch) (_ : l.stackTraces = false) (dC : Nat → ClassId) (dI : Nat → Nat → Nat) (o0 : Nat), ax l yL_put wsL_put { frames := 8, cells := 1, slots := 6, locals := 132 } [Value.ref o0, .int (iI ((r : Nat) : Int)), .int (iI ((i : Nat) : Int)), .int (iI ((t : Nat) : Int))] (dC, dI) (oW o0 a0 a1 q w) (oW o0 b0 b1 q' w') (some (.int (iI v))) := by
  obtain ⟨hp0, hp1, hw, hq, hqd⟩ := S
  by_cases h1 : r < 2 ∧ i < 12
  · by_cases h2 : t < 12
    · refine ⟨((rw_ r a0 a1 i : Nat) : Int), sr0 r (putF (rw_ r a0 a1) i t) a0, sr1 r (putF (rw_ r a0 a1) i t) a1, q, w, ⟨⟨sr0_Pm r (putF_Pm (rw_Pm hp0 hp1 r) h1.2 h2) hp0, sr1_Pm r (putF_Pm (rw_Pm hp0 hp1 r) h1.2 h2) hp1, hw, hq, hqd⟩, ⟨by omega, by have h9 := rw_lt hp0.1 hp1.1 r h1.2; omega⟩, fun h => by omega⟩, fun l hfl dC dI o0 => ?_⟩; exact mL_put_ok l hfl dC dI o0 a0 a1 q w hp0 hp1 hw hq hqd r i t h1.1 h1.2 h2
    · exact ⟨-99999, a0, a1, q, w, ⟨⟨hp0, hp1, hw, hq, hqd⟩, ⟨by decide, by decide⟩, fun _ => ⟨rfl, rfl, rfl, rfl⟩⟩, fun l hfl dC dI o0 => mL_put_x2 l hfl dC dI o0 a0 a1 q w hp0 hp1 hw hq hqd ((r : Nat) : Int) ((i : Nat) : Int) ((t : Nat) : Int) ⟨by omega, by omega⟩ ⟨by omega, by omega⟩ ⟨by omega, by omega⟩ (by omega)⟩
  · exact ⟨-99999, a0, a1, q, w, ⟨⟨hp0, hp1, hw, hq, hqd⟩, ⟨by decide, by decide⟩, fun _ => ⟨rfl, rfl, rfl, rfl⟩⟩, fun l hfl dC dI o0 => mL_put_x1 l hfl dC dI o0 a0 a1 q w hp0 hp1 hw hq hqd ((r : Nat) : Int) ((i : Nat) : Int) ((t : Nat) : Int) ⟨by omega, by omega⟩ ⟨by omega, by omega⟩ ⟨by omega, by omega⟩ (by omega)⟩

theorem eL_take {a0 a1 q : Nat → Nat} {w : Nat} (S : Gs a0 a1 q w) {r k i t : Nat} (hr : r < 3) (hk : k < 5) (hi : i < 13) (ht : t < 3) : ∃ (v : Int) (b0 b1 q' : Nat → Nat) (w' : Nat), Rs a0 a1 q w v b0 b1 q' w' ∧ ∀ (l : Launch) (_ : l.stackTraces = false) (dC : Nat → ClassId) (dI : Nat → Nat → Nat) (o0 : Nat), ax l yL_take wsL_take { frames := 9, cells := 1, slots := 6, locals := 149 } [Value.ref o0, .int (iI ((r : Nat) : Int)), .int (iI ((k : Nat) : Int)), .int (iI ((i : Nat) : Int)), .int (iI ((t : Nat) : Int))] (dC, dI) (oW o0 a0 a1 q w) (oW o0 b0 b1 q' w') (some (.int (iI v))) := by
  obtain ⟨hp0, hp1, hw, hq, hqd⟩ := S
  by_cases h1 : r < 2 ∧ t < 2
  · by_cases h2 : k < 4 ∧ i < 12
    · refine ⟨((fm (rw_ r a0 a1) (12 * k + i) 0 : Nat) : Int), sr0 t (fm (rw_ r a0 a1) (12 * k + i)) a0, sr1 t (fm (rw_ r a0 a1) (12 * k + i)) a1, q, w, ⟨⟨sr0_Pm t (fm_Pm (rw_Pm hp0 hp1 r) (code := 12 * k + i) (by omega)) hp0, sr1_Pm t (fm_Pm (rw_Pm hp0 hp1 r) (code := 12 * k + i) (by omega)) hp1, hw, hq, hqd⟩, ⟨by omega, by have h9 := fm_lt (rw_ r a0 a1) (12 * k + i) 0; omega⟩, fun h => by omega⟩, fun l hfl dC dI o0 => ?_⟩; exact mL_take_ok l hfl dC dI o0 a0 a1 q w hp0 hp1 hw hq hqd r k i t h1.1 h2.1 h2.2 h1.2
    · exact ⟨-99999, a0, a1, q, w, ⟨⟨hp0, hp1, hw, hq, hqd⟩, ⟨by decide, by decide⟩, fun _ => ⟨rfl, rfl, rfl, rfl⟩⟩, fun l hfl dC dI o0 => mL_take_x2 l hfl dC dI o0 a0 a1 q w hp0 hp1 hw hq hqd ((r : Nat) : Int) ((k : Nat) : Int) ((i : Nat) : Int) ((t : Nat) : Int) ⟨by omega, by omega⟩ ⟨by omega, by omega⟩ ⟨by omega, by omega⟩ ⟨by omega, by omega⟩ (by omega)⟩
  · exact ⟨-99999, a0, a1, q, w, ⟨⟨hp0, hp1, hw, hq, hqd⟩, ⟨by decide, by decide⟩, fun _ => ⟨rfl, rfl, rfl, rfl⟩⟩, fun l hfl dC dI o0 => mL_take_x1 l hfl dC dI o0 a0 a1 q w hp0 hp1 hw hq hqd ((r : Nat) : Int) ((k : Nat) : Int) ((i : Nat) : Int) ((t : Nat) : Int) ⟨by omega, by omega⟩ ⟨by omega, by omega⟩ ⟨by omega, by omega⟩ ⟨by omega, by omega⟩ (by omega)⟩

theorem eL_multiply {a0 a1 q : Nat → Nat} {w : Nat} (S : Gs a0 a1 q w) {r f : Nat} (hr : r < 3) (hf : f < 13) : ∃ (v : Int) (b0 b1 q' : Nat → Nat) (w' : Nat), Rs a0 a1 q w v b0 b1 q' w' ∧ ∀ (l : Launch) (_ : l.stackTraces = false) (dC : Nat → ClassId) (dI : Nat → Nat → Nat) (o0 : Nat), ax l yL_multiply wsL_multiply { frames := 8, cells := 1, slots := 6, locals := 129 } [Value.ref o0, .int (iI ((r : Nat) : Int)), .int (iI ((f : Nat) : Int))] (dC, dI) (oW o0 a0 a1 q w) (oW o0 b0 b1 q' w') (some (.int (iI v))) := by
  obtain ⟨hp0, hp1, hw, hq, hqd⟩ := S
  by_cases h1 : r < 2
  · by_cases h2 : f = 1 ∨ f = 5 ∨ f = 7 ∨ f = 11
    · refine ⟨((mulF (rw_ r a0 a1) f 0 : Nat) : Int), sr0 r (mulF (rw_ r a0 a1) f) a0, sr1 r (mulF (rw_ r a0 a1) f) a1, q, w, ⟨⟨sr0_Pm r (mulF_Pm (rw_Pm hp0 hp1 r) h2) hp0, sr1_Pm r (mulF_Pm (rw_Pm hp0 hp1 r) h2) hp1, hw, hq, hqd⟩, ⟨by omega, by have h9 := mulF_lt (rw_ r a0 a1) f 0 (by decide); omega⟩, fun h => by omega⟩, fun l hfl dC dI o0 => ?_⟩; exact mL_multiply_ok l hfl dC dI o0 a0 a1 q w hp0 hp1 hw hq hqd r f h1 h2
    · exact ⟨-99999, a0, a1, q, w, ⟨⟨hp0, hp1, hw, hq, hqd⟩, ⟨by decide, by decide⟩, fun _ => ⟨rfl, rfl, rfl, rfl⟩⟩, fun l hfl dC dI o0 => mL_multiply_x2 l hfl dC dI o0 a0 a1 q w hp0 hp1 hw hq hqd ((r : Nat) : Int) ((f : Nat) : Int) ⟨by omega, by omega⟩ ⟨by omega, by omega⟩ (by omega)⟩
  · exact ⟨-99999, a0, a1, q, w, ⟨⟨hp0, hp1, hw, hq, hqd⟩, ⟨by decide, by decide⟩, fun _ => ⟨rfl, rfl, rfl, rfl⟩⟩, fun l hfl dC dI o0 => mL_multiply_x1 l hfl dC dI o0 a0 a1 q w hp0 hp1 hw hq hqd ((r : Nat) : Int) ((f : Nat) : Int) ⟨by omega, by omega⟩ ⟨by omega, by omega⟩ (by omega)⟩

theorem eL_rotate {a0 a1 q : Nat → Nat} {w : Nat} (S : Gs a0 a1 q w) {r b : Nat} (hr : r < 3) (hb : b < 13) : ∃ (v : Int) (b0 b1 q' : Nat → Nat) (w' : Nat), Rs a0 a1 q w v b0 b1 q' w' ∧ ∀ (l : Launch) (_ : l.stackTraces = false) (dC : Nat → ClassId) (dI : Nat → Nat → Nat) (o0 : Nat), ax l yL_rotate wsL_rotate { frames := 8, cells := 1, slots := 6, locals := 131 } [Value.ref o0, .int (iI ((r : Nat) : Int)), .int (iI ((b : Nat) : Int))] (dC, dI) (oW o0 a0 a1 q w) (oW o0 b0 b1 q' w') (some (.int (iI v))) := by
  obtain ⟨hp0, hp1, hw, hq, hqd⟩ := S
  by_cases h1 : r < 2
  · by_cases h2 : b < 12
    · refine ⟨((rotF (rw_ r a0 a1) b 0 : Nat) : Int), sr0 r (rotF (rw_ r a0 a1) b) a0, sr1 r (rotF (rw_ r a0 a1) b) a1, q, w, ⟨⟨sr0_Pm r (rotF_Pm b (rw_Pm hp0 hp1 r)) hp0, sr1_Pm r (rotF_Pm b (rw_Pm hp0 hp1 r)) hp1, hw, hq, hqd⟩, ⟨by omega, by have h9 := (rotF_Pm b (rw_Pm hp0 hp1 r)).1 0 (by decide); omega⟩, fun h => by omega⟩, fun l hfl dC dI o0 => ?_⟩; exact mL_rotate_ok l hfl dC dI o0 a0 a1 q w hp0 hp1 hw hq hqd r b h1 h2
    · exact ⟨-99999, a0, a1, q, w, ⟨⟨hp0, hp1, hw, hq, hqd⟩, ⟨by decide, by decide⟩, fun _ => ⟨rfl, rfl, rfl, rfl⟩⟩, fun l hfl dC dI o0 => mL_rotate_x2 l hfl dC dI o0 a0 a1 q w hp0 hp1 hw hq hqd ((r : Nat) : Int) ((b : Nat) : Int) ⟨by omega, by omega⟩ ⟨by omega, by omega⟩ (by omega)⟩
  · exact ⟨-99999, a0, a1, q, w, ⟨⟨hp0, hp1, hw, hq, hqd⟩, ⟨by decide, by decide⟩, fun _ => ⟨rfl, rfl, rfl, rfl⟩⟩, fun l hfl dC dI o0 => mL_rotate_x1 l hfl dC dI o0 a0 a1 q w hp0 hp1 hw hq hqd ((r : Nat) : Int) ((b : Nat) : Int) ⟨by omega, by omega⟩ ⟨by omega, by omega⟩ (by omega)⟩

theorem eL_write {a0 a1 q : Nat → Nat} {w : Nat} (S : Gs a0 a1 q w) {t : Nat} (ht : t < 13) : ∃ (v : Int) (b0 b1 q' : Nat → Nat) (w' : Nat), Rs a0 a1 q w v b0 b1 q' w' ∧ ∀ (l : Launch) (_ : l.stackTraces = false) (dC : Nat → ClassId) (dI : Nat → Nat → Nat) (o0 : Nat), ax l yL_write wsL_write { frames := 8, cells := 1, slots := 6, locals := 125 } [Value.ref o0, .int (iI ((t : Nat) : Int))] (dC, dI) (oW o0 a0 a1 q w) (oW o0 b0 b1 q' w') (some (.int (iI v))) := by
  obtain ⟨hp0, hp1, hw, hq, hqd⟩ := S
  by_cases h1 : t < 12
  · by_cases h2 : orN (wtB q t) w = true
    · exact ⟨-99999, a0, a1, q, w, ⟨⟨hp0, hp1, hw, hq, hqd⟩, ⟨by decide, by decide⟩, fun _ => ⟨rfl, rfl, rfl, rfl⟩⟩, fun l hfl dC dI o0 => mL_write_x2 l hfl dC dI o0 a0 a1 q w hp0 hp1 hw hq hqd t h1 h2⟩
    · have hw12 := wr_lt hw hq hqd h1 h2
      refine ⟨((w + 1 : Nat) : Int), a0, a1, upq q w t, w + 1, ⟨⟨hp0, hp1, hw12, upq_lt hq h1, upq_d hqd h2⟩, ⟨by omega, by omega⟩, fun h => by omega⟩, fun l hfl dC dI o0 => ?_⟩; exact mL_write_ok l hfl dC dI o0 a0 a1 q w hp0 hp1 hw hq hqd t h1 h2 hw12
  · exact ⟨-99999, a0, a1, q, w, ⟨⟨hp0, hp1, hw, hq, hqd⟩, ⟨by decide, by decide⟩, fun _ => ⟨rfl, rfl, rfl, rfl⟩⟩, fun l hfl dC dI o0 => mL_write_x1 l hfl dC dI o0 a0 a1 q w hp0 hp1 hw hq hqd ((t : Nat) : Int) ⟨by omega, by omega⟩ (by omega)⟩

theorem eL_complete {a0 a1 q : Nat → Nat} {w : Nat} (S : Gs a0 a1 q w) {r : Nat} (hr : r < 3) : ∃ (v : Int) (b0 b1 q' : Nat → Nat) (w' : Nat), Rs a0 a1 q w v b0 b1 q' w' ∧ ∀ (l : Launch) (_ : l.stackTraces = false) (dC : Nat → ClassId) (dI : Nat → Nat → Nat) (o0 : Nat), ax l yL_complete wsL_complete { frames := 8, cells := 1, slots := 6, locals := 130 } [Value.ref o0, .int (iI ((r : Nat) : Int))] (dC, dI) (oW o0 a0 a1 q w) (oW o0 b0 b1 q' w') (some (.int (iI v))) := by
  obtain ⟨hp0, hp1, hw, hq, hqd⟩ := S
  by_cases h1 : r < 2
  · obtain ⟨G, e12, he12, hG, hGe, -⟩ := cp_G (K := fun _ => 0) (rw_Pm hp0 hp1 r) hq hqd
    refine ⟨((G 0 : Nat) : Int), sr0 r (G) a0, sr1 r (G) a1, q, w, ⟨⟨sr0_Pm r hG hp0, sr1_Pm r hG hp1, hw, hq, hqd⟩, ⟨by omega, by have h9 := hG.1 0 (by decide); omega⟩, fun h => by omega⟩, fun l hfl dC dI o0 => ?_⟩; exact mL_complete_ok l hfl dC dI o0 a0 a1 q w hp0 hp1 hw hq hqd r h1 G e12 he12 hG.1 hGe
  · exact ⟨-99999, a0, a1, q, w, ⟨⟨hp0, hp1, hw, hq, hqd⟩, ⟨by decide, by decide⟩, fun _ => ⟨rfl, rfl, rfl, rfl⟩⟩, fun l hfl dC dI o0 => mL_complete_x1 l hfl dC dI o0 a0 a1 q w hp0 hp1 hw hq hqd ((r : Nat) : Int) ⟨by omega, by omega⟩ (by omega)⟩
