/-! OBJECTS come and go on both sides. -/
theorem bIns_pm (bl : List blT) (x : blT) : (bIns bl x).Perm (x :: bl) := by
  unfold bIns
  refine List.perm_middle.trans ?_
  rw [List.take_append_drop]
theorem rel.insD {dl el kl : List blT} {ob : List obT} (h : rel dl el kl ob) (x : blT) : rel (bIns dl x) el kl (ob ++ [kO 0 x]) := by
  unfold rel at h ⊢
  refine List.perm_append_comm.trans ?_
  refine (List.Perm.cons (kO 0 x) h).trans ?_
  exact (((bIns_pm dl x).map (kO 0)).append_right _).symm
theorem rel.insE {dl el kl : List blT} {ob : List obT} (h : rel dl el kl ob) (x : blT) : rel dl (bIns el x) kl (ob ++ [kO 1 x]) := by
  unfold rel at h ⊢
  refine List.perm_append_comm.trans ?_
  refine (List.Perm.cons (kO 1 x) h).trans ?_
  refine List.perm_middle.symm.trans ?_
  exact List.Perm.append_left _ ((((bIns_pm el x).map (kO 1)).append_right _).symm)
theorem rel.insK {dl el kl : List blT} {ob : List obT} (h : rel dl el kl ob) (x : blT) : rel dl el (bIns kl x) (ob ++ [kO 2 x]) := by
  unfold rel at h ⊢
  refine List.perm_append_comm.trans ?_
  refine (List.Perm.cons (kO 2 x) h).trans ?_
  refine List.perm_middle.symm.trans ?_
  refine List.Perm.append_left _ ?_
  refine List.perm_middle.symm.trans ?_
  exact List.Perm.append_left _ ((bIns_pm kl x).map (kO 2)).symm
theorem rel.same {dl el kl d2 e2 k2 : List blT} {ob : List obT} (h : rel dl el kl ob) (hd : d2.map (kO 0) = dl.map (kO 0)) (he : e2.map (kO 1) = el.map (kO 1)) (hk : k2.map (kO 2) = kl.map (kO 2)) : rel d2 e2 k2 ob := by
  unfold rel at h ⊢
  rw [hd, he, hk]; exact h
theorem rel.flt {dl el kl : List blT} {ob ob2 : List obT} (h : rel dl el kl ob) {kp : obT → Bool} (hp : ob2.Perm (ob.filter kp)) : rel (dl.filter (fun y => kp (kO 0 y))) (el.filter (fun y => kp (kO 1 y))) (kl.filter (fun y => kp (kO 2 y))) ob2 := by
  unfold rel at h ⊢
  refine hp.trans ((h.filter kp).trans ?_)
  rw [List.filter_append, List.filter_append, List.filter_map, List.filter_map, List.filter_map]
  exact List.Perm.refl _
