theorem cn_tk_some {rows : List (List Int32)} {d r : List Int32} {k : Int32} (h : sp_row rows k = some r) : sp_take_ rows d k = if 2000 < d.length + r.length then (d, -1) else (d ++ r, nI (d.length + r.length)) := by
  unfold sp_take_
  rw [h]
theorem cn_pt_some {rows : List (List Int32)} {r : List Int32} {k i n : Int32} (h : sp_row rows k = some r) : sp_part rows k i n = if i < 0 ∨ nI r.length < i ∨ n < 0 ∨ nI (r.length - i.toNatClampNeg) < n then (rows, -1) else sp_numberOf rows ((r.drop i.toNatClampNeg).take n.toNatClampNeg) := by
  unfold sp_part
  rw [h]
