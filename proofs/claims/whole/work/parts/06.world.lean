/-! world C: places: 0 AskedCocks; 1 script; 2 script.bytes; 3 reader; 4 reader.draft; 5 reader.draft.roofs; 6 reader.draft.cocks; 7 reader.draft.cocks[0]; 8 reader.draft.cocks[1]; 9 reader.draft.cocks[2]; 10 reader.draft.cocks[3]; 11 reader.draft.cocks[4]; 12 reader.draft.people; 13 reader.draft.people[0]; 14 reader.draft.people[1]; 15 reader.draft.people[2]; 16 reader.draft.people[3]; 17 reader.draft.smokes; 18 reader.draft.smokes[0]; 19 reader.draft.smokes[1]; 20 reader.draft.smokes[2]; 21 reader.draft.smokes[3]; 22 reader.numbers; 23 watch; 24 watch.told; 25 watch.told.roofs; 26 watch.told.cocks; 27 watch.told.cocks[0]; 28 watch.told.cocks[1]; 29 watch.told.cocks[2]; 30 watch.told.cocks[3]; 31 watch.told.cocks[4]; 32 watch.told.people; 33 watch.told.people[0]; 34 watch.told.people[1]; 35 watch.told.people[2]; 36 watch.told.people[3]; 37 watch.told.smokes; 38 watch.told.smokes[0]; 39 watch.told.smokes[1]; 40 watch.told.smokes[2]; 41 watch.told.smokes[3]; 42 watch.present; 43 watch.present.roofs; 44 watch.present.seen; 45 watch.present.seen[0]; 46 watch.present.seen[1]; 47 watch.present.seen[2]; 48 watch.present.seen[3]; 49 watch.present.seen[4]; 50 watch.present.deedSorts; 51 watch.present.deedNumbers; 52 watch.present.deedRoofs; 53 clues; 54 clues.facedHours; 55 clues.facedSides; 56 clues.metCells; 57 clues.metHours; 58 kinds; 59 images; 60 images[0]; 61 images[0].roofs; 62 images[0].seen; 63 images[0].seen[0]; 64 images[0].seen[1]; 65 images[0].seen[2]; 66 images[0].seen[3]; 67 images[0].seen[4]; 68 images[0].deedSorts; 69 images[0].deedNumbers; 70 images[0].deedRoofs; 71 images[1]; 72 images[1].roofs; 73 images[1].seen; 74 images[1].seen[0]; 75 images[1].seen[1]; 76 images[1].seen[2]; 77 images[1].seen[3]; 78 images[1].seen[4]; 79 images[1].deedSorts; 80 images[1].deedNumbers; 81 images[1].deedRoofs -/
/-! world C: numbers (u.1): 0 script.length; 1 script.at; 2 script.tokenStart; 3 script.tokenValue; 4 reader.draft.cockCount; 5 reader.draft.peopleCount; 6 reader.draft.smokeCount; 7 watch.told.cockCount; 8 watch.told.peopleCount; 9 watch.told.smokeCount; 10 watch.present.hour; 11 watch.present.asked; 12 watch.present.deeds; 13 clues.facedCount; 14 clues.metCount; 15 images[0].hour; 16 images[0].asked; 17 images[0].deeds; 18 images[1].hour; 19 images[1].asked; 20 images[1].deeds; 21 imagesKept -/
/-! world C: rows (u.2.1): 0 script.bytes; 1 reader.draft.roofs; 2 reader.draft.cocks[0]; 3 reader.draft.cocks[1]; 4 reader.draft.cocks[2]; 5 reader.draft.cocks[3]; 6 reader.draft.cocks[4]; 7 reader.draft.people[0]; 8 reader.draft.people[1]; 9 reader.draft.people[2]; 10 reader.draft.people[3]; 11 reader.draft.smokes[0]; 12 reader.draft.smokes[1]; 13 reader.draft.smokes[2]; 14 reader.draft.smokes[3]; 15 reader.numbers; 16 watch.told.roofs; 17 watch.told.cocks[0]; 18 watch.told.cocks[1]; 19 watch.told.cocks[2]; 20 watch.told.cocks[3]; 21 watch.told.cocks[4]; 22 watch.told.people[0]; 23 watch.told.people[1]; 24 watch.told.people[2]; 25 watch.told.people[3]; 26 watch.told.smokes[0]; 27 watch.told.smokes[1]; 28 watch.told.smokes[2]; 29 watch.told.smokes[3]; 30 watch.present.roofs; 31 watch.present.seen[0]; 32 watch.present.seen[1]; 33 watch.present.seen[2]; 34 watch.present.seen[3]; 35 watch.present.seen[4]; 36 watch.present.deedSorts; 37 watch.present.deedNumbers; 38 watch.present.deedRoofs; 39 clues.facedHours; 40 clues.facedSides; 41 clues.metCells; 42 clues.metHours; 43 images[0].roofs; 44 images[0].seen[0]; 45 images[0].seen[1]; 46 images[0].seen[2]; 47 images[0].seen[3]; 48 images[0].seen[4]; 49 images[0].deedSorts; 50 images[0].deedNumbers; 51 images[0].deedRoofs; 52 images[1].roofs; 53 images[1].seen[0]; 54 images[1].seen[1]; 55 images[1].seen[2]; 56 images[1].seen[3]; 57 images[1].seen[4]; 58 images[1].deedSorts; 59 images[1].deedNumbers; 60 images[1].deedRoofs -/
def wC (g : Gx) (u : St) : va_W := [(g.2.2 0, .inr (7, [.ref (g.2.2 1), .ref (g.2.2 3), .ref (g.2.2 23), .ref (g.2.2 53), .ref (g.2.2 58), .ref (g.2.2 59), .int (u.1 21)])),
  (g.2.2 1, .inr (5, [.ref (g.2.2 2), .int (u.1 0), .int (u.1 1), .int (u.1 2), .int (u.1 3)])),
  (g.2.2 2, .inl (g.2.1.1, 150, .inl (u.2.1 0))),
  (g.2.2 3, .inr (4, [.ref (g.2.2 4), .ref (g.2.2 22)])),
  (g.2.2 4, .inr (1, [.ref (g.2.2 5), .ref (g.2.2 6), .ref (g.2.2 12), .ref (g.2.2 17), .int (u.1 4), .int (u.1 5), .int (u.1 6)])),
  (g.2.2 5, .inl (g.2.1.1, 24, .inl (u.2.1 1))),
  (g.2.2 6, .inl (g.2.1.2.1, 5, .inr (.inr (.inr (.inr (fun i => some (g.2.2 (7 + i)))))))),
  (g.2.2 7, .inl (g.2.1.1, 4, .inl (u.2.1 2))),
  (g.2.2 8, .inl (g.2.1.1, 4, .inl (u.2.1 3))),
  (g.2.2 9, .inl (g.2.1.1, 4, .inl (u.2.1 4))),
  (g.2.2 10, .inl (g.2.1.1, 4, .inl (u.2.1 5))),
  (g.2.2 11, .inl (g.2.1.1, 4, .inl (u.2.1 6))),
  (g.2.2 12, .inl (g.2.1.2.1, 4, .inr (.inr (.inr (.inr (fun i => some (g.2.2 (13 + i)))))))),
  (g.2.2 13, .inl (g.2.1.1, 2, .inl (u.2.1 7))),
  (g.2.2 14, .inl (g.2.1.1, 2, .inl (u.2.1 8))),
  (g.2.2 15, .inl (g.2.1.1, 2, .inl (u.2.1 9))),
  (g.2.2 16, .inl (g.2.1.1, 2, .inl (u.2.1 10))),
  (g.2.2 17, .inl (g.2.1.2.1, 4, .inr (.inr (.inr (.inr (fun i => some (g.2.2 (18 + i)))))))),
  (g.2.2 18, .inl (g.2.1.1, 3, .inl (u.2.1 11))),
  (g.2.2 19, .inl (g.2.1.1, 3, .inl (u.2.1 12))),
  (g.2.2 20, .inl (g.2.1.1, 3, .inl (u.2.1 13))),
  (g.2.2 21, .inl (g.2.1.1, 3, .inl (u.2.1 14))),
  (g.2.2 22, .inl (g.2.1.1, 4, .inl (u.2.1 15))),
  (g.2.2 23, .inr (6, [.ref (g.2.2 24), .ref (g.2.2 42)])),
  (g.2.2 24, .inr (1, [.ref (g.2.2 25), .ref (g.2.2 26), .ref (g.2.2 32), .ref (g.2.2 37), .int (u.1 7), .int (u.1 8), .int (u.1 9)])),
  (g.2.2 25, .inl (g.2.1.1, 24, .inl (u.2.1 16))),
  (g.2.2 26, .inl (g.2.1.2.1, 5, .inr (.inr (.inr (.inr (fun i => some (g.2.2 (27 + i)))))))),
  (g.2.2 27, .inl (g.2.1.1, 4, .inl (u.2.1 17))),
  (g.2.2 28, .inl (g.2.1.1, 4, .inl (u.2.1 18))),
  (g.2.2 29, .inl (g.2.1.1, 4, .inl (u.2.1 19))),
  (g.2.2 30, .inl (g.2.1.1, 4, .inl (u.2.1 20))),
  (g.2.2 31, .inl (g.2.1.1, 4, .inl (u.2.1 21))),
  (g.2.2 32, .inl (g.2.1.2.1, 4, .inr (.inr (.inr (.inr (fun i => some (g.2.2 (33 + i)))))))),
  (g.2.2 33, .inl (g.2.1.1, 2, .inl (u.2.1 22))),
  (g.2.2 34, .inl (g.2.1.1, 2, .inl (u.2.1 23))),
  (g.2.2 35, .inl (g.2.1.1, 2, .inl (u.2.1 24))),
  (g.2.2 36, .inl (g.2.1.1, 2, .inl (u.2.1 25))),
  (g.2.2 37, .inl (g.2.1.2.1, 4, .inr (.inr (.inr (.inr (fun i => some (g.2.2 (38 + i)))))))),
  (g.2.2 38, .inl (g.2.1.1, 3, .inl (u.2.1 26))),
  (g.2.2 39, .inl (g.2.1.1, 3, .inl (u.2.1 27))),
  (g.2.2 40, .inl (g.2.1.1, 3, .inl (u.2.1 28))),
  (g.2.2 41, .inl (g.2.1.1, 3, .inl (u.2.1 29))),
  (g.2.2 42, .inr (3, [.int (u.1 10), .int (u.1 11), .ref (g.2.2 43), .ref (g.2.2 44), .ref (g.2.2 50), .ref (g.2.2 51), .ref (g.2.2 52), .int (u.1 12)])),
  (g.2.2 43, .inl (g.2.1.1, 24, .inl (u.2.1 30))),
  (g.2.2 44, .inl (g.2.1.2.1, 5, .inr (.inr (.inr (.inr (fun i => some (g.2.2 (45 + i)))))))),
  (g.2.2 45, .inl (g.2.1.1, 4, .inl (u.2.1 31))),
  (g.2.2 46, .inl (g.2.1.1, 4, .inl (u.2.1 32))),
  (g.2.2 47, .inl (g.2.1.1, 4, .inl (u.2.1 33))),
  (g.2.2 48, .inl (g.2.1.1, 4, .inl (u.2.1 34))),
  (g.2.2 49, .inl (g.2.1.1, 4, .inl (u.2.1 35))),
  (g.2.2 50, .inl (g.2.1.1, 10, .inl (u.2.1 36))),
  (g.2.2 51, .inl (g.2.1.1, 10, .inl (u.2.1 37))),
  (g.2.2 52, .inl (g.2.1.1, 10, .inl (u.2.1 38))),
  (g.2.2 53, .inr (0, [.ref (g.2.2 54), .ref (g.2.2 55), .int (u.1 13), .ref (g.2.2 56), .ref (g.2.2 57), .int (u.1 14)])),
  (g.2.2 54, .inl (g.2.1.1, 6, .inl (u.2.1 39))),
  (g.2.2 55, .inl (g.2.1.1, 6, .inl (u.2.1 40))),
  (g.2.2 56, .inl (g.2.1.1, 6, .inl (u.2.1 41))),
  (g.2.2 57, .inl (g.2.1.1, 6, .inl (u.2.1 42))),
  (g.2.2 58, .inr (2, [.long u.2.2])),
  (g.2.2 59, .inl (g.2.1.2.2.1, 2, .inr (.inr (.inr (.inr (fun i => some (g.2.2 (60 + 11 * i)))))))),
  (g.2.2 60, .inr (3, [.int (u.1 15), .int (u.1 16), .ref (g.2.2 61), .ref (g.2.2 62), .ref (g.2.2 68), .ref (g.2.2 69), .ref (g.2.2 70), .int (u.1 17)])),
  (g.2.2 61, .inl (g.2.1.1, 24, .inl (u.2.1 43))),
  (g.2.2 62, .inl (g.2.1.2.1, 5, .inr (.inr (.inr (.inr (fun i => some (g.2.2 (63 + i)))))))),
  (g.2.2 63, .inl (g.2.1.1, 4, .inl (u.2.1 44))),
  (g.2.2 64, .inl (g.2.1.1, 4, .inl (u.2.1 45))),
  (g.2.2 65, .inl (g.2.1.1, 4, .inl (u.2.1 46))),
  (g.2.2 66, .inl (g.2.1.1, 4, .inl (u.2.1 47))),
  (g.2.2 67, .inl (g.2.1.1, 4, .inl (u.2.1 48))),
  (g.2.2 68, .inl (g.2.1.1, 10, .inl (u.2.1 49))),
  (g.2.2 69, .inl (g.2.1.1, 10, .inl (u.2.1 50))),
  (g.2.2 70, .inl (g.2.1.1, 10, .inl (u.2.1 51))),
  (g.2.2 71, .inr (3, [.int (u.1 18), .int (u.1 19), .ref (g.2.2 72), .ref (g.2.2 73), .ref (g.2.2 79), .ref (g.2.2 80), .ref (g.2.2 81), .int (u.1 20)])),
  (g.2.2 72, .inl (g.2.1.1, 24, .inl (u.2.1 52))),
  (g.2.2 73, .inl (g.2.1.2.1, 5, .inr (.inr (.inr (.inr (fun i => some (g.2.2 (74 + i)))))))),
  (g.2.2 74, .inl (g.2.1.1, 4, .inl (u.2.1 53))),
  (g.2.2 75, .inl (g.2.1.1, 4, .inl (u.2.1 54))),
  (g.2.2 76, .inl (g.2.1.1, 4, .inl (u.2.1 55))),
  (g.2.2 77, .inl (g.2.1.1, 4, .inl (u.2.1 56))),
  (g.2.2 78, .inl (g.2.1.1, 4, .inl (u.2.1 57))),
  (g.2.2 79, .inl (g.2.1.1, 10, .inl (u.2.1 58))),
  (g.2.2 80, .inl (g.2.1.1, 10, .inl (u.2.1 59))),
  (g.2.2 81, .inl (g.2.1.1, 10, .inl (u.2.1 60)))]
theorem wokC : Wok wC 82 := by
  intro g u k q h
  have h1 : ((wC g u).map (fun x => x.1))[k]? = some q.1 := by rw [List.getElem?_map, h]; rfl
  have h2 : (wC g u).map (fun x => x.1) = (List.range 82).map g.2.2 := rfl
  rw [h2, List.getElem?_map] at h1
  by_cases hk : k < 82
  · rw [List.getElem?_range hk] at h1
    exact ⟨hk, (Option.some.inj h1).symm⟩
  · rw [List.getElem?_eq_none (by rw [List.length_range]; omega)] at h1
    cases h1
/-! world M: places: 0 AskedCocksModel; 1 places; 2 rises; 3 sides; 4 turns; 5 starts; 6 speeds; 7 smoke; 8 st; 9 images; 10 isKept; 11 facing; 12 meets; 13 text; 14 saidRoof; 15 saidPlace; 16 saidRise; 17 saidSide; 18 saidTurn; 19 saidStart; 20 saidSpeed; 21 saidSmoke -/
/-! world M: numbers (u.1): 0 cocks; 1 people; 2 smokes; 3 facedMany; 4 metMany; 5 texted; 6 cursor; 7 start; 8 token; 9 number; 10 isWrong; 11 items; 12 saidCocks; 13 saidPeople; 14 saidSmokes -/
/-! world M: rows (u.2.1): 0 places; 1 rises; 2 sides; 3 turns; 4 starts; 5 speeds; 6 smoke; 7 st; 8 images; 9 isKept; 10 facing; 11 meets; 12 text; 13 saidRoof; 14 saidPlace; 15 saidRise; 16 saidSide; 17 saidTurn; 18 saidStart; 19 saidSpeed; 20 saidSmoke -/
def wM (g : Gx) (u : St) : va_W := [(g.2.2 0, .inr (8, [.int (u.1 0), .ref (g.2.2 1), .ref (g.2.2 2), .ref (g.2.2 3), .ref (g.2.2 4), .int (u.1 1), .ref (g.2.2 5), .ref (g.2.2 6), .int (u.1 2), .ref (g.2.2 7), .ref (g.2.2 8), .ref (g.2.2 9), .ref (g.2.2 10), .int (u.1 3), .ref (g.2.2 11), .int (u.1 4), .ref (g.2.2 12), .long u.2.2, .ref (g.2.2 13), .int (u.1 5), .int (u.1 6), .int (u.1 7), .int (u.1 8), .int (u.1 9), .int (u.1 10), .int (u.1 11), .ref (g.2.2 14), .int (u.1 12), .ref (g.2.2 15), .ref (g.2.2 16), .ref (g.2.2 17), .ref (g.2.2 18), .int (u.1 13), .ref (g.2.2 19), .ref (g.2.2 20), .int (u.1 14), .ref (g.2.2 21)])),
  (g.2.2 1, .inl (g.2.1.1, 5, .inl (u.2.1 0))),
  (g.2.2 2, .inl (g.2.1.1, 5, .inl (u.2.1 1))),
  (g.2.2 3, .inl (g.2.1.1, 5, .inl (u.2.1 2))),
  (g.2.2 4, .inl (g.2.1.1, 5, .inl (u.2.1 3))),
  (g.2.2 5, .inl (g.2.1.1, 4, .inl (u.2.1 4))),
  (g.2.2 6, .inl (g.2.1.1, 4, .inl (u.2.1 5))),
  (g.2.2 7, .inl (g.2.1.1, 12, .inl (u.2.1 6))),
  (g.2.2 8, .inl (g.2.1.1, 507, .inl (u.2.1 7))),
  (g.2.2 9, .inl (g.2.1.1, 1014, .inl (u.2.1 8))),
  (g.2.2 10, .inl (g.2.1.2.2.2, 2, .inl (u.2.1 9))),
  (g.2.2 11, .inl (g.2.1.1, 12, .inl (u.2.1 10))),
  (g.2.2 12, .inl (g.2.1.1, 12, .inl (u.2.1 11))),
  (g.2.2 13, .inl (g.2.1.1, 150, .inl (u.2.1 12))),
  (g.2.2 14, .inl (g.2.1.1, 24, .inl (u.2.1 13))),
  (g.2.2 15, .inl (g.2.1.1, 5, .inl (u.2.1 14))),
  (g.2.2 16, .inl (g.2.1.1, 5, .inl (u.2.1 15))),
  (g.2.2 17, .inl (g.2.1.1, 5, .inl (u.2.1 16))),
  (g.2.2 18, .inl (g.2.1.1, 5, .inl (u.2.1 17))),
  (g.2.2 19, .inl (g.2.1.1, 4, .inl (u.2.1 18))),
  (g.2.2 20, .inl (g.2.1.1, 4, .inl (u.2.1 19))),
  (g.2.2 21, .inl (g.2.1.1, 12, .inl (u.2.1 20)))]
theorem wokM : Wok wM 22 := by
  intro g u k q h
  have h1 : ((wM g u).map (fun x => x.1))[k]? = some q.1 := by rw [List.getElem?_map, h]; rfl
  have h2 : (wM g u).map (fun x => x.1) = (List.range 22).map g.2.2 := rfl
  rw [h2, List.getElem?_map] at h1
  by_cases hk : k < 22
  · rw [List.getElem?_range hk] at h1
    exact ⟨hk, (Option.some.inj h1).symm⟩
  · rw [List.getElem?_eq_none (by rw [List.length_range]; omega)] at h1
    cases h1
section WORLD
variable {p : Program} {l : Launch} {e : Env} {R : Room} {s : State} {m : MethodId} {args : Array Value} {below : List Frame} {meth : Method} {c : Code} {H : Heap} {locs : List Loc} {Q : State → Prop} {cc : ByteArray} {own : String} {nL : Nat} {ret : Option FieldType} {g : Gx} {u : St} {ls : Array Slot} {rest : List Value} {pc idx : Nat}

theorem oC_0 (g : Gx) (u : St) : (wC g u)[0]? = some (g.2.2 0, .inr (7, [.ref (g.2.2 1), .ref (g.2.2 3), .ref (g.2.2 23), .ref (g.2.2 53), .ref (g.2.2 58), .ref (g.2.2 59), .int (u.1 21)])) := rfl
theorem gC_0_0 (C : Cx p s m meth c args cc own nL ret 82 g) (Z : Zx wC g (Aw 82 g s.heap.size) s H locs u) (hl : FL s args own idx "AskedCocks" "script" "LAskedCocks$Script;") (hdg : decode cc pc = .ok (.getfield idx, 3)) (kk : W p l e R s m args below meth c H locs 0 0 Q (F0 m (pc + 3) ls (.ref (g.2.2 1) :: rest))) : W p l e R s m args below meth c H locs 0 0 Q (F0 m pc ls (.ref (g.2.2 0) :: rest)) :=
  r_get C Z (T := TX7) inlX7 rfl (oC_0 g u) (k := 0) (by decide) hl rfl hdg kk
theorem gC_0_1 (C : Cx p s m meth c args cc own nL ret 82 g) (Z : Zx wC g (Aw 82 g s.heap.size) s H locs u) (hl : FL s args own idx "AskedCocks" "reader" "LAskedCocks$Reader;") (hdg : decode cc pc = .ok (.getfield idx, 3)) (kk : W p l e R s m args below meth c H locs 0 0 Q (F0 m (pc + 3) ls (.ref (g.2.2 3) :: rest))) : W p l e R s m args below meth c H locs 0 0 Q (F0 m pc ls (.ref (g.2.2 0) :: rest)) :=
  r_get C Z (T := TX7) inlX7 rfl (oC_0 g u) (k := 1) (by decide) hl rfl hdg kk
theorem gC_0_2 (C : Cx p s m meth c args cc own nL ret 82 g) (Z : Zx wC g (Aw 82 g s.heap.size) s H locs u) (hl : FL s args own idx "AskedCocks" "watch" "LAskedCocks$Watch;") (hdg : decode cc pc = .ok (.getfield idx, 3)) (kk : W p l e R s m args below meth c H locs 0 0 Q (F0 m (pc + 3) ls (.ref (g.2.2 23) :: rest))) : W p l e R s m args below meth c H locs 0 0 Q (F0 m pc ls (.ref (g.2.2 0) :: rest)) :=
  r_get C Z (T := TX7) inlX7 rfl (oC_0 g u) (k := 2) (by decide) hl rfl hdg kk
theorem gC_0_3 (C : Cx p s m meth c args cc own nL ret 82 g) (Z : Zx wC g (Aw 82 g s.heap.size) s H locs u) (hl : FL s args own idx "AskedCocks" "clues" "LAskedCocks$Clues;") (hdg : decode cc pc = .ok (.getfield idx, 3)) (kk : W p l e R s m args below meth c H locs 0 0 Q (F0 m (pc + 3) ls (.ref (g.2.2 53) :: rest))) : W p l e R s m args below meth c H locs 0 0 Q (F0 m pc ls (.ref (g.2.2 0) :: rest)) :=
  r_get C Z (T := TX7) inlX7 rfl (oC_0 g u) (k := 3) (by decide) hl rfl hdg kk
theorem gC_0_4 (C : Cx p s m meth c args cc own nL ret 82 g) (Z : Zx wC g (Aw 82 g s.heap.size) s H locs u) (hl : FL s args own idx "AskedCocks" "kinds" "LAskedCocks$Kinds;") (hdg : decode cc pc = .ok (.getfield idx, 3)) (kk : W p l e R s m args below meth c H locs 0 0 Q (F0 m (pc + 3) ls (.ref (g.2.2 58) :: rest))) : W p l e R s m args below meth c H locs 0 0 Q (F0 m pc ls (.ref (g.2.2 0) :: rest)) :=
  r_get C Z (T := TX7) inlX7 rfl (oC_0 g u) (k := 4) (by decide) hl rfl hdg kk
theorem gC_0_5 (C : Cx p s m meth c args cc own nL ret 82 g) (Z : Zx wC g (Aw 82 g s.heap.size) s H locs u) (hl : FL s args own idx "AskedCocks" "images" "[LAskedCocks$Present;") (hdg : decode cc pc = .ok (.getfield idx, 3)) (kk : W p l e R s m args below meth c H locs 0 0 Q (F0 m (pc + 3) ls (.ref (g.2.2 59) :: rest))) : W p l e R s m args below meth c H locs 0 0 Q (F0 m pc ls (.ref (g.2.2 0) :: rest)) :=
  r_get C Z (T := TX7) inlX7 rfl (oC_0 g u) (k := 5) (by decide) hl rfl hdg kk
theorem gC_0_6 (C : Cx p s m meth c args cc own nL ret 82 g) (Z : Zx wC g (Aw 82 g s.heap.size) s H locs u) (hl : FL s args own idx "AskedCocks" "imagesKept" "I") (hdg : decode cc pc = .ok (.getfield idx, 3)) {x : Int32} (hx : u.1 21 = x) (kk : W p l e R s m args below meth c H locs 0 0 Q (F0 m (pc + 3) ls (.int x :: rest))) : W p l e R s m args below meth c H locs 0 0 Q (F0 m pc ls (.ref (g.2.2 0) :: rest)) :=
  r_get C Z (T := TX7) inlX7 rfl (oC_0 g u) (k := 6) (by decide) hl (v := .int x) (by rw [← hx]; rfl) hdg kk
theorem pC_0_6 (C : Cx p s m meth c args cc own nL ret 82 g) (Z : Zx wC g (Aw 82 g s.heap.size) s H locs u) (hl : FL s args own idx "AskedCocks" "imagesKept" "I") {x : Int32} (hdg : decode cc pc = .ok (.putfield idx, 3)) (kk : ∀ (H : Heap) (locs : List Loc), Zx wC g (Aw 82 g s.heap.size) s H locs (sI u 21 x) → W p l e R s m args below meth c H locs 0 0 Q (F0 m (pc + 3) ls rest)) : W p l e R s m args below meth c H locs 0 0 Q (F0 m pc ls (.int x :: .ref (g.2.2 0) :: rest)) :=
  r_put C wokC Z (T := TX7) inlX7 tyX7 tyX7_ok nmX7 rfl (oC_0 g u) (k := 6) (by decide) hl rfl (ty := .int) (by decide +kernel) rfl rfl (Nat.le_of_ble_eq_true rfl) rfl hdg kk
theorem oC_1 (g : Gx) (u : St) : (wC g u)[1]? = some (g.2.2 1, .inr (5, [.ref (g.2.2 2), .int (u.1 0), .int (u.1 1), .int (u.1 2), .int (u.1 3)])) := rfl
theorem gC_1_0 (C : Cx p s m meth c args cc own nL ret 82 g) (Z : Zx wC g (Aw 82 g s.heap.size) s H locs u) (hl : FL s args own idx "AskedCocks$Script" "bytes" "[I") (hdg : decode cc pc = .ok (.getfield idx, 3)) (kk : W p l e R s m args below meth c H locs 0 0 Q (F0 m (pc + 3) ls (.ref (g.2.2 2) :: rest))) : W p l e R s m args below meth c H locs 0 0 Q (F0 m pc ls (.ref (g.2.2 1) :: rest)) :=
  r_get C Z (T := TX5) inlX5 rfl (oC_1 g u) (k := 0) (by decide) hl rfl hdg kk
theorem gC_1_1 (C : Cx p s m meth c args cc own nL ret 82 g) (Z : Zx wC g (Aw 82 g s.heap.size) s H locs u) (hl : FL s args own idx "AskedCocks$Script" "length" "I") (hdg : decode cc pc = .ok (.getfield idx, 3)) {x : Int32} (hx : u.1 0 = x) (kk : W p l e R s m args below meth c H locs 0 0 Q (F0 m (pc + 3) ls (.int x :: rest))) : W p l e R s m args below meth c H locs 0 0 Q (F0 m pc ls (.ref (g.2.2 1) :: rest)) :=
  r_get C Z (T := TX5) inlX5 rfl (oC_1 g u) (k := 1) (by decide) hl (v := .int x) (by rw [← hx]; rfl) hdg kk
theorem pC_1_1 (C : Cx p s m meth c args cc own nL ret 82 g) (Z : Zx wC g (Aw 82 g s.heap.size) s H locs u) (hl : FL s args own idx "AskedCocks$Script" "length" "I") {x : Int32} (hdg : decode cc pc = .ok (.putfield idx, 3)) (kk : ∀ (H : Heap) (locs : List Loc), Zx wC g (Aw 82 g s.heap.size) s H locs (sI u 0 x) → W p l e R s m args below meth c H locs 0 0 Q (F0 m (pc + 3) ls rest)) : W p l e R s m args below meth c H locs 0 0 Q (F0 m pc ls (.int x :: .ref (g.2.2 1) :: rest)) :=
  r_put C wokC Z (T := TX5) inlX5 tyX5 tyX5_ok nmX5 rfl (oC_1 g u) (k := 1) (by decide) hl rfl (ty := .int) (by decide +kernel) rfl rfl (Nat.le_of_ble_eq_true rfl) rfl hdg kk
theorem gC_1_2 (C : Cx p s m meth c args cc own nL ret 82 g) (Z : Zx wC g (Aw 82 g s.heap.size) s H locs u) (hl : FL s args own idx "AskedCocks$Script" "at" "I") (hdg : decode cc pc = .ok (.getfield idx, 3)) {x : Int32} (hx : u.1 1 = x) (kk : W p l e R s m args below meth c H locs 0 0 Q (F0 m (pc + 3) ls (.int x :: rest))) : W p l e R s m args below meth c H locs 0 0 Q (F0 m pc ls (.ref (g.2.2 1) :: rest)) :=
  r_get C Z (T := TX5) inlX5 rfl (oC_1 g u) (k := 2) (by decide) hl (v := .int x) (by rw [← hx]; rfl) hdg kk
theorem pC_1_2 (C : Cx p s m meth c args cc own nL ret 82 g) (Z : Zx wC g (Aw 82 g s.heap.size) s H locs u) (hl : FL s args own idx "AskedCocks$Script" "at" "I") {x : Int32} (hdg : decode cc pc = .ok (.putfield idx, 3)) (kk : ∀ (H : Heap) (locs : List Loc), Zx wC g (Aw 82 g s.heap.size) s H locs (sI u 1 x) → W p l e R s m args below meth c H locs 0 0 Q (F0 m (pc + 3) ls rest)) : W p l e R s m args below meth c H locs 0 0 Q (F0 m pc ls (.int x :: .ref (g.2.2 1) :: rest)) :=
  r_put C wokC Z (T := TX5) inlX5 tyX5 tyX5_ok nmX5 rfl (oC_1 g u) (k := 2) (by decide) hl rfl (ty := .int) (by decide +kernel) rfl rfl (Nat.le_of_ble_eq_true rfl) rfl hdg kk
theorem gC_1_3 (C : Cx p s m meth c args cc own nL ret 82 g) (Z : Zx wC g (Aw 82 g s.heap.size) s H locs u) (hl : FL s args own idx "AskedCocks$Script" "tokenStart" "I") (hdg : decode cc pc = .ok (.getfield idx, 3)) {x : Int32} (hx : u.1 2 = x) (kk : W p l e R s m args below meth c H locs 0 0 Q (F0 m (pc + 3) ls (.int x :: rest))) : W p l e R s m args below meth c H locs 0 0 Q (F0 m pc ls (.ref (g.2.2 1) :: rest)) :=
  r_get C Z (T := TX5) inlX5 rfl (oC_1 g u) (k := 3) (by decide) hl (v := .int x) (by rw [← hx]; rfl) hdg kk
theorem pC_1_3 (C : Cx p s m meth c args cc own nL ret 82 g) (Z : Zx wC g (Aw 82 g s.heap.size) s H locs u) (hl : FL s args own idx "AskedCocks$Script" "tokenStart" "I") {x : Int32} (hdg : decode cc pc = .ok (.putfield idx, 3)) (kk : ∀ (H : Heap) (locs : List Loc), Zx wC g (Aw 82 g s.heap.size) s H locs (sI u 2 x) → W p l e R s m args below meth c H locs 0 0 Q (F0 m (pc + 3) ls rest)) : W p l e R s m args below meth c H locs 0 0 Q (F0 m pc ls (.int x :: .ref (g.2.2 1) :: rest)) :=
  r_put C wokC Z (T := TX5) inlX5 tyX5 tyX5_ok nmX5 rfl (oC_1 g u) (k := 3) (by decide) hl rfl (ty := .int) (by decide +kernel) rfl rfl (Nat.le_of_ble_eq_true rfl) rfl hdg kk
theorem gC_1_4 (C : Cx p s m meth c args cc own nL ret 82 g) (Z : Zx wC g (Aw 82 g s.heap.size) s H locs u) (hl : FL s args own idx "AskedCocks$Script" "tokenValue" "I") (hdg : decode cc pc = .ok (.getfield idx, 3)) {x : Int32} (hx : u.1 3 = x) (kk : W p l e R s m args below meth c H locs 0 0 Q (F0 m (pc + 3) ls (.int x :: rest))) : W p l e R s m args below meth c H locs 0 0 Q (F0 m pc ls (.ref (g.2.2 1) :: rest)) :=
  r_get C Z (T := TX5) inlX5 rfl (oC_1 g u) (k := 4) (by decide) hl (v := .int x) (by rw [← hx]; rfl) hdg kk
theorem pC_1_4 (C : Cx p s m meth c args cc own nL ret 82 g) (Z : Zx wC g (Aw 82 g s.heap.size) s H locs u) (hl : FL s args own idx "AskedCocks$Script" "tokenValue" "I") {x : Int32} (hdg : decode cc pc = .ok (.putfield idx, 3)) (kk : ∀ (H : Heap) (locs : List Loc), Zx wC g (Aw 82 g s.heap.size) s H locs (sI u 3 x) → W p l e R s m args below meth c H locs 0 0 Q (F0 m (pc + 3) ls rest)) : W p l e R s m args below meth c H locs 0 0 Q (F0 m pc ls (.int x :: .ref (g.2.2 1) :: rest)) :=
  r_put C wokC Z (T := TX5) inlX5 tyX5 tyX5_ok nmX5 rfl (oC_1 g u) (k := 4) (by decide) hl rfl (ty := .int) (by decide +kernel) rfl rfl (Nat.le_of_ble_eq_true rfl) rfl hdg kk
theorem aC_2 (g : Gx) (u : St) {f : Nat → Int32} (hf : u.2.1 0 = f) : (wC g u)[2]? = some (g.2.2 2, .inl (g.2.1.1, 150, .inl f)) := hf ▸ rfl
theorem sC_2 (g : Gx) (u : St) (f : Nat → Int32) : (wC g u).set 2 (g.2.2 2, .inl (g.2.1.1, 150, .inl f)) = wC g (sA u 0 f) := rfl
theorem oC_3 (g : Gx) (u : St) : (wC g u)[3]? = some (g.2.2 3, .inr (4, [.ref (g.2.2 4), .ref (g.2.2 22)])) := rfl
theorem gC_3_0 (C : Cx p s m meth c args cc own nL ret 82 g) (Z : Zx wC g (Aw 82 g s.heap.size) s H locs u) (hl : FL s args own idx "AskedCocks$Reader" "draft" "LAskedCocks$Diocese;") (hdg : decode cc pc = .ok (.getfield idx, 3)) (kk : W p l e R s m args below meth c H locs 0 0 Q (F0 m (pc + 3) ls (.ref (g.2.2 4) :: rest))) : W p l e R s m args below meth c H locs 0 0 Q (F0 m pc ls (.ref (g.2.2 3) :: rest)) :=
  r_get C Z (T := TX4) inlX4 rfl (oC_3 g u) (k := 0) (by decide) hl rfl hdg kk
theorem gC_3_1 (C : Cx p s m meth c args cc own nL ret 82 g) (Z : Zx wC g (Aw 82 g s.heap.size) s H locs u) (hl : FL s args own idx "AskedCocks$Reader" "numbers" "[I") (hdg : decode cc pc = .ok (.getfield idx, 3)) (kk : W p l e R s m args below meth c H locs 0 0 Q (F0 m (pc + 3) ls (.ref (g.2.2 22) :: rest))) : W p l e R s m args below meth c H locs 0 0 Q (F0 m pc ls (.ref (g.2.2 3) :: rest)) :=
  r_get C Z (T := TX4) inlX4 rfl (oC_3 g u) (k := 1) (by decide) hl rfl hdg kk
theorem oC_4 (g : Gx) (u : St) : (wC g u)[4]? = some (g.2.2 4, .inr (1, [.ref (g.2.2 5), .ref (g.2.2 6), .ref (g.2.2 12), .ref (g.2.2 17), .int (u.1 4), .int (u.1 5), .int (u.1 6)])) := rfl
theorem gC_4_0 (C : Cx p s m meth c args cc own nL ret 82 g) (Z : Zx wC g (Aw 82 g s.heap.size) s H locs u) (hl : FL s args own idx "AskedCocks$Diocese" "roofs" "[I") (hdg : decode cc pc = .ok (.getfield idx, 3)) (kk : W p l e R s m args below meth c H locs 0 0 Q (F0 m (pc + 3) ls (.ref (g.2.2 5) :: rest))) : W p l e R s m args below meth c H locs 0 0 Q (F0 m pc ls (.ref (g.2.2 4) :: rest)) :=
  r_get C Z (T := TX1) inlX1 rfl (oC_4 g u) (k := 0) (by decide) hl rfl hdg kk
theorem gC_4_1 (C : Cx p s m meth c args cc own nL ret 82 g) (Z : Zx wC g (Aw 82 g s.heap.size) s H locs u) (hl : FL s args own idx "AskedCocks$Diocese" "cocks" "[[I") (hdg : decode cc pc = .ok (.getfield idx, 3)) (kk : W p l e R s m args below meth c H locs 0 0 Q (F0 m (pc + 3) ls (.ref (g.2.2 6) :: rest))) : W p l e R s m args below meth c H locs 0 0 Q (F0 m pc ls (.ref (g.2.2 4) :: rest)) :=
  r_get C Z (T := TX1) inlX1 rfl (oC_4 g u) (k := 1) (by decide) hl rfl hdg kk
theorem gC_4_2 (C : Cx p s m meth c args cc own nL ret 82 g) (Z : Zx wC g (Aw 82 g s.heap.size) s H locs u) (hl : FL s args own idx "AskedCocks$Diocese" "people" "[[I") (hdg : decode cc pc = .ok (.getfield idx, 3)) (kk : W p l e R s m args below meth c H locs 0 0 Q (F0 m (pc + 3) ls (.ref (g.2.2 12) :: rest))) : W p l e R s m args below meth c H locs 0 0 Q (F0 m pc ls (.ref (g.2.2 4) :: rest)) :=
  r_get C Z (T := TX1) inlX1 rfl (oC_4 g u) (k := 2) (by decide) hl rfl hdg kk
theorem gC_4_3 (C : Cx p s m meth c args cc own nL ret 82 g) (Z : Zx wC g (Aw 82 g s.heap.size) s H locs u) (hl : FL s args own idx "AskedCocks$Diocese" "smokes" "[[I") (hdg : decode cc pc = .ok (.getfield idx, 3)) (kk : W p l e R s m args below meth c H locs 0 0 Q (F0 m (pc + 3) ls (.ref (g.2.2 17) :: rest))) : W p l e R s m args below meth c H locs 0 0 Q (F0 m pc ls (.ref (g.2.2 4) :: rest)) :=
  r_get C Z (T := TX1) inlX1 rfl (oC_4 g u) (k := 3) (by decide) hl rfl hdg kk
theorem gC_4_4 (C : Cx p s m meth c args cc own nL ret 82 g) (Z : Zx wC g (Aw 82 g s.heap.size) s H locs u) (hl : FL s args own idx "AskedCocks$Diocese" "cockCount" "I") (hdg : decode cc pc = .ok (.getfield idx, 3)) {x : Int32} (hx : u.1 4 = x) (kk : W p l e R s m args below meth c H locs 0 0 Q (F0 m (pc + 3) ls (.int x :: rest))) : W p l e R s m args below meth c H locs 0 0 Q (F0 m pc ls (.ref (g.2.2 4) :: rest)) :=
  r_get C Z (T := TX1) inlX1 rfl (oC_4 g u) (k := 4) (by decide) hl (v := .int x) (by rw [← hx]; rfl) hdg kk
theorem pC_4_4 (C : Cx p s m meth c args cc own nL ret 82 g) (Z : Zx wC g (Aw 82 g s.heap.size) s H locs u) (hl : FL s args own idx "AskedCocks$Diocese" "cockCount" "I") {x : Int32} (hdg : decode cc pc = .ok (.putfield idx, 3)) (kk : ∀ (H : Heap) (locs : List Loc), Zx wC g (Aw 82 g s.heap.size) s H locs (sI u 4 x) → W p l e R s m args below meth c H locs 0 0 Q (F0 m (pc + 3) ls rest)) : W p l e R s m args below meth c H locs 0 0 Q (F0 m pc ls (.int x :: .ref (g.2.2 4) :: rest)) :=
  r_put C wokC Z (T := TX1) inlX1 tyX1 tyX1_ok nmX1 rfl (oC_4 g u) (k := 4) (by decide) hl rfl (ty := .int) (by decide +kernel) rfl rfl (Nat.le_of_ble_eq_true rfl) rfl hdg kk
theorem gC_4_5 (C : Cx p s m meth c args cc own nL ret 82 g) (Z : Zx wC g (Aw 82 g s.heap.size) s H locs u) (hl : FL s args own idx "AskedCocks$Diocese" "peopleCount" "I") (hdg : decode cc pc = .ok (.getfield idx, 3)) {x : Int32} (hx : u.1 5 = x) (kk : W p l e R s m args below meth c H locs 0 0 Q (F0 m (pc + 3) ls (.int x :: rest))) : W p l e R s m args below meth c H locs 0 0 Q (F0 m pc ls (.ref (g.2.2 4) :: rest)) :=
  r_get C Z (T := TX1) inlX1 rfl (oC_4 g u) (k := 5) (by decide) hl (v := .int x) (by rw [← hx]; rfl) hdg kk
theorem pC_4_5 (C : Cx p s m meth c args cc own nL ret 82 g) (Z : Zx wC g (Aw 82 g s.heap.size) s H locs u) (hl : FL s args own idx "AskedCocks$Diocese" "peopleCount" "I") {x : Int32} (hdg : decode cc pc = .ok (.putfield idx, 3)) (kk : ∀ (H : Heap) (locs : List Loc), Zx wC g (Aw 82 g s.heap.size) s H locs (sI u 5 x) → W p l e R s m args below meth c H locs 0 0 Q (F0 m (pc + 3) ls rest)) : W p l e R s m args below meth c H locs 0 0 Q (F0 m pc ls (.int x :: .ref (g.2.2 4) :: rest)) :=
  r_put C wokC Z (T := TX1) inlX1 tyX1 tyX1_ok nmX1 rfl (oC_4 g u) (k := 5) (by decide) hl rfl (ty := .int) (by decide +kernel) rfl rfl (Nat.le_of_ble_eq_true rfl) rfl hdg kk
theorem gC_4_6 (C : Cx p s m meth c args cc own nL ret 82 g) (Z : Zx wC g (Aw 82 g s.heap.size) s H locs u) (hl : FL s args own idx "AskedCocks$Diocese" "smokeCount" "I") (hdg : decode cc pc = .ok (.getfield idx, 3)) {x : Int32} (hx : u.1 6 = x) (kk : W p l e R s m args below meth c H locs 0 0 Q (F0 m (pc + 3) ls (.int x :: rest))) : W p l e R s m args below meth c H locs 0 0 Q (F0 m pc ls (.ref (g.2.2 4) :: rest)) :=
  r_get C Z (T := TX1) inlX1 rfl (oC_4 g u) (k := 6) (by decide) hl (v := .int x) (by rw [← hx]; rfl) hdg kk
theorem pC_4_6 (C : Cx p s m meth c args cc own nL ret 82 g) (Z : Zx wC g (Aw 82 g s.heap.size) s H locs u) (hl : FL s args own idx "AskedCocks$Diocese" "smokeCount" "I") {x : Int32} (hdg : decode cc pc = .ok (.putfield idx, 3)) (kk : ∀ (H : Heap) (locs : List Loc), Zx wC g (Aw 82 g s.heap.size) s H locs (sI u 6 x) → W p l e R s m args below meth c H locs 0 0 Q (F0 m (pc + 3) ls rest)) : W p l e R s m args below meth c H locs 0 0 Q (F0 m pc ls (.int x :: .ref (g.2.2 4) :: rest)) :=
  r_put C wokC Z (T := TX1) inlX1 tyX1 tyX1_ok nmX1 rfl (oC_4 g u) (k := 6) (by decide) hl rfl (ty := .int) (by decide +kernel) rfl rfl (Nat.le_of_ble_eq_true rfl) rfl hdg kk
theorem aC_5 (g : Gx) (u : St) {f : Nat → Int32} (hf : u.2.1 1 = f) : (wC g u)[5]? = some (g.2.2 5, .inl (g.2.1.1, 24, .inl f)) := hf ▸ rfl
theorem sC_5 (g : Gx) (u : St) (f : Nat → Int32) : (wC g u).set 5 (g.2.2 5, .inl (g.2.1.1, 24, .inl f)) = wC g (sA u 1 f) := rfl
theorem aC_6 (g : Gx) (u : St) : (wC g u)[6]? = some (g.2.2 6, .inl (g.2.1.2.1, 5, .inr (.inr (.inr (.inr (fun i => some (g.2.2 (7 + i)))))))) := rfl
theorem arC_6 (g : Gx) (u : St) {k : Nat} (hk : k < 5) {f : Nat → Int32} (hf : u.2.1 (2 + k) = f) : (wC g u)[7 + k]? = some (g.2.2 (7 + k), .inl (g.2.1.1, 4, .inl f)) :=
  hf ▸
  match k, hk with
  | 0, _ => rfl
  | 1, _ => rfl
  | 2, _ => rfl
  | 3, _ => rfl
  | 4, _ => rfl
theorem srC_6 (g : Gx) (u : St) {k : Nat} (hk : k < 5) (f : Nat → Int32) : (wC g u).set (7 + k) (g.2.2 (7 + k), .inl (g.2.1.1, 4, .inl f)) = wC g (sA u (2 + k) f) :=
  match k, hk with
  | 0, _ => rfl
  | 1, _ => rfl
  | 2, _ => rfl
  | 3, _ => rfl
  | 4, _ => rfl
theorem aC_12 (g : Gx) (u : St) : (wC g u)[12]? = some (g.2.2 12, .inl (g.2.1.2.1, 4, .inr (.inr (.inr (.inr (fun i => some (g.2.2 (13 + i)))))))) := rfl
theorem arC_12 (g : Gx) (u : St) {k : Nat} (hk : k < 4) {f : Nat → Int32} (hf : u.2.1 (7 + k) = f) : (wC g u)[13 + k]? = some (g.2.2 (13 + k), .inl (g.2.1.1, 2, .inl f)) :=
  hf ▸
  match k, hk with
  | 0, _ => rfl
  | 1, _ => rfl
  | 2, _ => rfl
  | 3, _ => rfl
theorem srC_12 (g : Gx) (u : St) {k : Nat} (hk : k < 4) (f : Nat → Int32) : (wC g u).set (13 + k) (g.2.2 (13 + k), .inl (g.2.1.1, 2, .inl f)) = wC g (sA u (7 + k) f) :=
  match k, hk with
  | 0, _ => rfl
  | 1, _ => rfl
  | 2, _ => rfl
  | 3, _ => rfl
theorem aC_17 (g : Gx) (u : St) : (wC g u)[17]? = some (g.2.2 17, .inl (g.2.1.2.1, 4, .inr (.inr (.inr (.inr (fun i => some (g.2.2 (18 + i)))))))) := rfl
theorem arC_17 (g : Gx) (u : St) {k : Nat} (hk : k < 4) {f : Nat → Int32} (hf : u.2.1 (11 + k) = f) : (wC g u)[18 + k]? = some (g.2.2 (18 + k), .inl (g.2.1.1, 3, .inl f)) :=
  hf ▸
  match k, hk with
  | 0, _ => rfl
  | 1, _ => rfl
  | 2, _ => rfl
  | 3, _ => rfl
theorem srC_17 (g : Gx) (u : St) {k : Nat} (hk : k < 4) (f : Nat → Int32) : (wC g u).set (18 + k) (g.2.2 (18 + k), .inl (g.2.1.1, 3, .inl f)) = wC g (sA u (11 + k) f) :=
  match k, hk with
  | 0, _ => rfl
  | 1, _ => rfl
  | 2, _ => rfl
  | 3, _ => rfl
theorem aC_22 (g : Gx) (u : St) {f : Nat → Int32} (hf : u.2.1 15 = f) : (wC g u)[22]? = some (g.2.2 22, .inl (g.2.1.1, 4, .inl f)) := hf ▸ rfl
theorem sC_22 (g : Gx) (u : St) (f : Nat → Int32) : (wC g u).set 22 (g.2.2 22, .inl (g.2.1.1, 4, .inl f)) = wC g (sA u 15 f) := rfl
theorem oC_23 (g : Gx) (u : St) : (wC g u)[23]? = some (g.2.2 23, .inr (6, [.ref (g.2.2 24), .ref (g.2.2 42)])) := rfl
theorem gC_23_0 (C : Cx p s m meth c args cc own nL ret 82 g) (Z : Zx wC g (Aw 82 g s.heap.size) s H locs u) (hl : FL s args own idx "AskedCocks$Watch" "told" "LAskedCocks$Diocese;") (hdg : decode cc pc = .ok (.getfield idx, 3)) (kk : W p l e R s m args below meth c H locs 0 0 Q (F0 m (pc + 3) ls (.ref (g.2.2 24) :: rest))) : W p l e R s m args below meth c H locs 0 0 Q (F0 m pc ls (.ref (g.2.2 23) :: rest)) :=
  r_get C Z (T := TX6) inlX6 rfl (oC_23 g u) (k := 0) (by decide) hl rfl hdg kk
theorem gC_23_1 (C : Cx p s m meth c args cc own nL ret 82 g) (Z : Zx wC g (Aw 82 g s.heap.size) s H locs u) (hl : FL s args own idx "AskedCocks$Watch" "present" "LAskedCocks$Present;") (hdg : decode cc pc = .ok (.getfield idx, 3)) (kk : W p l e R s m args below meth c H locs 0 0 Q (F0 m (pc + 3) ls (.ref (g.2.2 42) :: rest))) : W p l e R s m args below meth c H locs 0 0 Q (F0 m pc ls (.ref (g.2.2 23) :: rest)) :=
  r_get C Z (T := TX6) inlX6 rfl (oC_23 g u) (k := 1) (by decide) hl rfl hdg kk
theorem oC_24 (g : Gx) (u : St) : (wC g u)[24]? = some (g.2.2 24, .inr (1, [.ref (g.2.2 25), .ref (g.2.2 26), .ref (g.2.2 32), .ref (g.2.2 37), .int (u.1 7), .int (u.1 8), .int (u.1 9)])) := rfl
theorem gC_24_0 (C : Cx p s m meth c args cc own nL ret 82 g) (Z : Zx wC g (Aw 82 g s.heap.size) s H locs u) (hl : FL s args own idx "AskedCocks$Diocese" "roofs" "[I") (hdg : decode cc pc = .ok (.getfield idx, 3)) (kk : W p l e R s m args below meth c H locs 0 0 Q (F0 m (pc + 3) ls (.ref (g.2.2 25) :: rest))) : W p l e R s m args below meth c H locs 0 0 Q (F0 m pc ls (.ref (g.2.2 24) :: rest)) :=
  r_get C Z (T := TX1) inlX1 rfl (oC_24 g u) (k := 0) (by decide) hl rfl hdg kk
theorem gC_24_1 (C : Cx p s m meth c args cc own nL ret 82 g) (Z : Zx wC g (Aw 82 g s.heap.size) s H locs u) (hl : FL s args own idx "AskedCocks$Diocese" "cocks" "[[I") (hdg : decode cc pc = .ok (.getfield idx, 3)) (kk : W p l e R s m args below meth c H locs 0 0 Q (F0 m (pc + 3) ls (.ref (g.2.2 26) :: rest))) : W p l e R s m args below meth c H locs 0 0 Q (F0 m pc ls (.ref (g.2.2 24) :: rest)) :=
  r_get C Z (T := TX1) inlX1 rfl (oC_24 g u) (k := 1) (by decide) hl rfl hdg kk
theorem gC_24_2 (C : Cx p s m meth c args cc own nL ret 82 g) (Z : Zx wC g (Aw 82 g s.heap.size) s H locs u) (hl : FL s args own idx "AskedCocks$Diocese" "people" "[[I") (hdg : decode cc pc = .ok (.getfield idx, 3)) (kk : W p l e R s m args below meth c H locs 0 0 Q (F0 m (pc + 3) ls (.ref (g.2.2 32) :: rest))) : W p l e R s m args below meth c H locs 0 0 Q (F0 m pc ls (.ref (g.2.2 24) :: rest)) :=
  r_get C Z (T := TX1) inlX1 rfl (oC_24 g u) (k := 2) (by decide) hl rfl hdg kk
theorem gC_24_3 (C : Cx p s m meth c args cc own nL ret 82 g) (Z : Zx wC g (Aw 82 g s.heap.size) s H locs u) (hl : FL s args own idx "AskedCocks$Diocese" "smokes" "[[I") (hdg : decode cc pc = .ok (.getfield idx, 3)) (kk : W p l e R s m args below meth c H locs 0 0 Q (F0 m (pc + 3) ls (.ref (g.2.2 37) :: rest))) : W p l e R s m args below meth c H locs 0 0 Q (F0 m pc ls (.ref (g.2.2 24) :: rest)) :=
  r_get C Z (T := TX1) inlX1 rfl (oC_24 g u) (k := 3) (by decide) hl rfl hdg kk
theorem gC_24_4 (C : Cx p s m meth c args cc own nL ret 82 g) (Z : Zx wC g (Aw 82 g s.heap.size) s H locs u) (hl : FL s args own idx "AskedCocks$Diocese" "cockCount" "I") (hdg : decode cc pc = .ok (.getfield idx, 3)) {x : Int32} (hx : u.1 7 = x) (kk : W p l e R s m args below meth c H locs 0 0 Q (F0 m (pc + 3) ls (.int x :: rest))) : W p l e R s m args below meth c H locs 0 0 Q (F0 m pc ls (.ref (g.2.2 24) :: rest)) :=
  r_get C Z (T := TX1) inlX1 rfl (oC_24 g u) (k := 4) (by decide) hl (v := .int x) (by rw [← hx]; rfl) hdg kk
theorem pC_24_4 (C : Cx p s m meth c args cc own nL ret 82 g) (Z : Zx wC g (Aw 82 g s.heap.size) s H locs u) (hl : FL s args own idx "AskedCocks$Diocese" "cockCount" "I") {x : Int32} (hdg : decode cc pc = .ok (.putfield idx, 3)) (kk : ∀ (H : Heap) (locs : List Loc), Zx wC g (Aw 82 g s.heap.size) s H locs (sI u 7 x) → W p l e R s m args below meth c H locs 0 0 Q (F0 m (pc + 3) ls rest)) : W p l e R s m args below meth c H locs 0 0 Q (F0 m pc ls (.int x :: .ref (g.2.2 24) :: rest)) :=
  r_put C wokC Z (T := TX1) inlX1 tyX1 tyX1_ok nmX1 rfl (oC_24 g u) (k := 4) (by decide) hl rfl (ty := .int) (by decide +kernel) rfl rfl (Nat.le_of_ble_eq_true rfl) rfl hdg kk
theorem gC_24_5 (C : Cx p s m meth c args cc own nL ret 82 g) (Z : Zx wC g (Aw 82 g s.heap.size) s H locs u) (hl : FL s args own idx "AskedCocks$Diocese" "peopleCount" "I") (hdg : decode cc pc = .ok (.getfield idx, 3)) {x : Int32} (hx : u.1 8 = x) (kk : W p l e R s m args below meth c H locs 0 0 Q (F0 m (pc + 3) ls (.int x :: rest))) : W p l e R s m args below meth c H locs 0 0 Q (F0 m pc ls (.ref (g.2.2 24) :: rest)) :=
  r_get C Z (T := TX1) inlX1 rfl (oC_24 g u) (k := 5) (by decide) hl (v := .int x) (by rw [← hx]; rfl) hdg kk
theorem pC_24_5 (C : Cx p s m meth c args cc own nL ret 82 g) (Z : Zx wC g (Aw 82 g s.heap.size) s H locs u) (hl : FL s args own idx "AskedCocks$Diocese" "peopleCount" "I") {x : Int32} (hdg : decode cc pc = .ok (.putfield idx, 3)) (kk : ∀ (H : Heap) (locs : List Loc), Zx wC g (Aw 82 g s.heap.size) s H locs (sI u 8 x) → W p l e R s m args below meth c H locs 0 0 Q (F0 m (pc + 3) ls rest)) : W p l e R s m args below meth c H locs 0 0 Q (F0 m pc ls (.int x :: .ref (g.2.2 24) :: rest)) :=
  r_put C wokC Z (T := TX1) inlX1 tyX1 tyX1_ok nmX1 rfl (oC_24 g u) (k := 5) (by decide) hl rfl (ty := .int) (by decide +kernel) rfl rfl (Nat.le_of_ble_eq_true rfl) rfl hdg kk
theorem gC_24_6 (C : Cx p s m meth c args cc own nL ret 82 g) (Z : Zx wC g (Aw 82 g s.heap.size) s H locs u) (hl : FL s args own idx "AskedCocks$Diocese" "smokeCount" "I") (hdg : decode cc pc = .ok (.getfield idx, 3)) {x : Int32} (hx : u.1 9 = x) (kk : W p l e R s m args below meth c H locs 0 0 Q (F0 m (pc + 3) ls (.int x :: rest))) : W p l e R s m args below meth c H locs 0 0 Q (F0 m pc ls (.ref (g.2.2 24) :: rest)) :=
  r_get C Z (T := TX1) inlX1 rfl (oC_24 g u) (k := 6) (by decide) hl (v := .int x) (by rw [← hx]; rfl) hdg kk
theorem pC_24_6 (C : Cx p s m meth c args cc own nL ret 82 g) (Z : Zx wC g (Aw 82 g s.heap.size) s H locs u) (hl : FL s args own idx "AskedCocks$Diocese" "smokeCount" "I") {x : Int32} (hdg : decode cc pc = .ok (.putfield idx, 3)) (kk : ∀ (H : Heap) (locs : List Loc), Zx wC g (Aw 82 g s.heap.size) s H locs (sI u 9 x) → W p l e R s m args below meth c H locs 0 0 Q (F0 m (pc + 3) ls rest)) : W p l e R s m args below meth c H locs 0 0 Q (F0 m pc ls (.int x :: .ref (g.2.2 24) :: rest)) :=
  r_put C wokC Z (T := TX1) inlX1 tyX1 tyX1_ok nmX1 rfl (oC_24 g u) (k := 6) (by decide) hl rfl (ty := .int) (by decide +kernel) rfl rfl (Nat.le_of_ble_eq_true rfl) rfl hdg kk
theorem aC_25 (g : Gx) (u : St) {f : Nat → Int32} (hf : u.2.1 16 = f) : (wC g u)[25]? = some (g.2.2 25, .inl (g.2.1.1, 24, .inl f)) := hf ▸ rfl
theorem sC_25 (g : Gx) (u : St) (f : Nat → Int32) : (wC g u).set 25 (g.2.2 25, .inl (g.2.1.1, 24, .inl f)) = wC g (sA u 16 f) := rfl
theorem aC_26 (g : Gx) (u : St) : (wC g u)[26]? = some (g.2.2 26, .inl (g.2.1.2.1, 5, .inr (.inr (.inr (.inr (fun i => some (g.2.2 (27 + i)))))))) := rfl
theorem arC_26 (g : Gx) (u : St) {k : Nat} (hk : k < 5) {f : Nat → Int32} (hf : u.2.1 (17 + k) = f) : (wC g u)[27 + k]? = some (g.2.2 (27 + k), .inl (g.2.1.1, 4, .inl f)) :=
  hf ▸
  match k, hk with
  | 0, _ => rfl
  | 1, _ => rfl
  | 2, _ => rfl
  | 3, _ => rfl
  | 4, _ => rfl
theorem srC_26 (g : Gx) (u : St) {k : Nat} (hk : k < 5) (f : Nat → Int32) : (wC g u).set (27 + k) (g.2.2 (27 + k), .inl (g.2.1.1, 4, .inl f)) = wC g (sA u (17 + k) f) :=
  match k, hk with
  | 0, _ => rfl
  | 1, _ => rfl
  | 2, _ => rfl
  | 3, _ => rfl
  | 4, _ => rfl
theorem aC_32 (g : Gx) (u : St) : (wC g u)[32]? = some (g.2.2 32, .inl (g.2.1.2.1, 4, .inr (.inr (.inr (.inr (fun i => some (g.2.2 (33 + i)))))))) := rfl
theorem arC_32 (g : Gx) (u : St) {k : Nat} (hk : k < 4) {f : Nat → Int32} (hf : u.2.1 (22 + k) = f) : (wC g u)[33 + k]? = some (g.2.2 (33 + k), .inl (g.2.1.1, 2, .inl f)) :=
  hf ▸
  match k, hk with
  | 0, _ => rfl
  | 1, _ => rfl
  | 2, _ => rfl
  | 3, _ => rfl
theorem srC_32 (g : Gx) (u : St) {k : Nat} (hk : k < 4) (f : Nat → Int32) : (wC g u).set (33 + k) (g.2.2 (33 + k), .inl (g.2.1.1, 2, .inl f)) = wC g (sA u (22 + k) f) :=
  match k, hk with
  | 0, _ => rfl
  | 1, _ => rfl
  | 2, _ => rfl
  | 3, _ => rfl
theorem aC_37 (g : Gx) (u : St) : (wC g u)[37]? = some (g.2.2 37, .inl (g.2.1.2.1, 4, .inr (.inr (.inr (.inr (fun i => some (g.2.2 (38 + i)))))))) := rfl
theorem arC_37 (g : Gx) (u : St) {k : Nat} (hk : k < 4) {f : Nat → Int32} (hf : u.2.1 (26 + k) = f) : (wC g u)[38 + k]? = some (g.2.2 (38 + k), .inl (g.2.1.1, 3, .inl f)) :=
  hf ▸
  match k, hk with
  | 0, _ => rfl
  | 1, _ => rfl
  | 2, _ => rfl
  | 3, _ => rfl
theorem srC_37 (g : Gx) (u : St) {k : Nat} (hk : k < 4) (f : Nat → Int32) : (wC g u).set (38 + k) (g.2.2 (38 + k), .inl (g.2.1.1, 3, .inl f)) = wC g (sA u (26 + k) f) :=
  match k, hk with
  | 0, _ => rfl
  | 1, _ => rfl
  | 2, _ => rfl
  | 3, _ => rfl
theorem oC_42 (g : Gx) (u : St) : (wC g u)[42]? = some (g.2.2 42, .inr (3, [.int (u.1 10), .int (u.1 11), .ref (g.2.2 43), .ref (g.2.2 44), .ref (g.2.2 50), .ref (g.2.2 51), .ref (g.2.2 52), .int (u.1 12)])) := rfl
theorem gC_42_0 (C : Cx p s m meth c args cc own nL ret 82 g) (Z : Zx wC g (Aw 82 g s.heap.size) s H locs u) (hl : FL s args own idx "AskedCocks$Present" "hour" "I") (hdg : decode cc pc = .ok (.getfield idx, 3)) {x : Int32} (hx : u.1 10 = x) (kk : W p l e R s m args below meth c H locs 0 0 Q (F0 m (pc + 3) ls (.int x :: rest))) : W p l e R s m args below meth c H locs 0 0 Q (F0 m pc ls (.ref (g.2.2 42) :: rest)) :=
  r_get C Z (T := TX3) inlX3 rfl (oC_42 g u) (k := 0) (by decide) hl (v := .int x) (by rw [← hx]; rfl) hdg kk
theorem pC_42_0 (C : Cx p s m meth c args cc own nL ret 82 g) (Z : Zx wC g (Aw 82 g s.heap.size) s H locs u) (hl : FL s args own idx "AskedCocks$Present" "hour" "I") {x : Int32} (hdg : decode cc pc = .ok (.putfield idx, 3)) (kk : ∀ (H : Heap) (locs : List Loc), Zx wC g (Aw 82 g s.heap.size) s H locs (sI u 10 x) → W p l e R s m args below meth c H locs 0 0 Q (F0 m (pc + 3) ls rest)) : W p l e R s m args below meth c H locs 0 0 Q (F0 m pc ls (.int x :: .ref (g.2.2 42) :: rest)) :=
  r_put C wokC Z (T := TX3) inlX3 tyX3 tyX3_ok nmX3 rfl (oC_42 g u) (k := 0) (by decide) hl rfl (ty := .int) (by decide +kernel) rfl rfl (Nat.le_of_ble_eq_true rfl) rfl hdg kk
theorem gC_42_1 (C : Cx p s m meth c args cc own nL ret 82 g) (Z : Zx wC g (Aw 82 g s.heap.size) s H locs u) (hl : FL s args own idx "AskedCocks$Present" "asked" "I") (hdg : decode cc pc = .ok (.getfield idx, 3)) {x : Int32} (hx : u.1 11 = x) (kk : W p l e R s m args below meth c H locs 0 0 Q (F0 m (pc + 3) ls (.int x :: rest))) : W p l e R s m args below meth c H locs 0 0 Q (F0 m pc ls (.ref (g.2.2 42) :: rest)) :=
  r_get C Z (T := TX3) inlX3 rfl (oC_42 g u) (k := 1) (by decide) hl (v := .int x) (by rw [← hx]; rfl) hdg kk
theorem pC_42_1 (C : Cx p s m meth c args cc own nL ret 82 g) (Z : Zx wC g (Aw 82 g s.heap.size) s H locs u) (hl : FL s args own idx "AskedCocks$Present" "asked" "I") {x : Int32} (hdg : decode cc pc = .ok (.putfield idx, 3)) (kk : ∀ (H : Heap) (locs : List Loc), Zx wC g (Aw 82 g s.heap.size) s H locs (sI u 11 x) → W p l e R s m args below meth c H locs 0 0 Q (F0 m (pc + 3) ls rest)) : W p l e R s m args below meth c H locs 0 0 Q (F0 m pc ls (.int x :: .ref (g.2.2 42) :: rest)) :=
  r_put C wokC Z (T := TX3) inlX3 tyX3 tyX3_ok nmX3 rfl (oC_42 g u) (k := 1) (by decide) hl rfl (ty := .int) (by decide +kernel) rfl rfl (Nat.le_of_ble_eq_true rfl) rfl hdg kk
theorem gC_42_2 (C : Cx p s m meth c args cc own nL ret 82 g) (Z : Zx wC g (Aw 82 g s.heap.size) s H locs u) (hl : FL s args own idx "AskedCocks$Present" "roofs" "[I") (hdg : decode cc pc = .ok (.getfield idx, 3)) (kk : W p l e R s m args below meth c H locs 0 0 Q (F0 m (pc + 3) ls (.ref (g.2.2 43) :: rest))) : W p l e R s m args below meth c H locs 0 0 Q (F0 m pc ls (.ref (g.2.2 42) :: rest)) :=
  r_get C Z (T := TX3) inlX3 rfl (oC_42 g u) (k := 2) (by decide) hl rfl hdg kk
theorem gC_42_3 (C : Cx p s m meth c args cc own nL ret 82 g) (Z : Zx wC g (Aw 82 g s.heap.size) s H locs u) (hl : FL s args own idx "AskedCocks$Present" "seen" "[[I") (hdg : decode cc pc = .ok (.getfield idx, 3)) (kk : W p l e R s m args below meth c H locs 0 0 Q (F0 m (pc + 3) ls (.ref (g.2.2 44) :: rest))) : W p l e R s m args below meth c H locs 0 0 Q (F0 m pc ls (.ref (g.2.2 42) :: rest)) :=
  r_get C Z (T := TX3) inlX3 rfl (oC_42 g u) (k := 3) (by decide) hl rfl hdg kk
theorem gC_42_4 (C : Cx p s m meth c args cc own nL ret 82 g) (Z : Zx wC g (Aw 82 g s.heap.size) s H locs u) (hl : FL s args own idx "AskedCocks$Present" "deedSorts" "[I") (hdg : decode cc pc = .ok (.getfield idx, 3)) (kk : W p l e R s m args below meth c H locs 0 0 Q (F0 m (pc + 3) ls (.ref (g.2.2 50) :: rest))) : W p l e R s m args below meth c H locs 0 0 Q (F0 m pc ls (.ref (g.2.2 42) :: rest)) :=
  r_get C Z (T := TX3) inlX3 rfl (oC_42 g u) (k := 4) (by decide) hl rfl hdg kk
theorem gC_42_5 (C : Cx p s m meth c args cc own nL ret 82 g) (Z : Zx wC g (Aw 82 g s.heap.size) s H locs u) (hl : FL s args own idx "AskedCocks$Present" "deedNumbers" "[I") (hdg : decode cc pc = .ok (.getfield idx, 3)) (kk : W p l e R s m args below meth c H locs 0 0 Q (F0 m (pc + 3) ls (.ref (g.2.2 51) :: rest))) : W p l e R s m args below meth c H locs 0 0 Q (F0 m pc ls (.ref (g.2.2 42) :: rest)) :=
  r_get C Z (T := TX3) inlX3 rfl (oC_42 g u) (k := 5) (by decide) hl rfl hdg kk
theorem gC_42_6 (C : Cx p s m meth c args cc own nL ret 82 g) (Z : Zx wC g (Aw 82 g s.heap.size) s H locs u) (hl : FL s args own idx "AskedCocks$Present" "deedRoofs" "[I") (hdg : decode cc pc = .ok (.getfield idx, 3)) (kk : W p l e R s m args below meth c H locs 0 0 Q (F0 m (pc + 3) ls (.ref (g.2.2 52) :: rest))) : W p l e R s m args below meth c H locs 0 0 Q (F0 m pc ls (.ref (g.2.2 42) :: rest)) :=
  r_get C Z (T := TX3) inlX3 rfl (oC_42 g u) (k := 6) (by decide) hl rfl hdg kk
theorem gC_42_7 (C : Cx p s m meth c args cc own nL ret 82 g) (Z : Zx wC g (Aw 82 g s.heap.size) s H locs u) (hl : FL s args own idx "AskedCocks$Present" "deeds" "I") (hdg : decode cc pc = .ok (.getfield idx, 3)) {x : Int32} (hx : u.1 12 = x) (kk : W p l e R s m args below meth c H locs 0 0 Q (F0 m (pc + 3) ls (.int x :: rest))) : W p l e R s m args below meth c H locs 0 0 Q (F0 m pc ls (.ref (g.2.2 42) :: rest)) :=
  r_get C Z (T := TX3) inlX3 rfl (oC_42 g u) (k := 7) (by decide) hl (v := .int x) (by rw [← hx]; rfl) hdg kk
theorem pC_42_7 (C : Cx p s m meth c args cc own nL ret 82 g) (Z : Zx wC g (Aw 82 g s.heap.size) s H locs u) (hl : FL s args own idx "AskedCocks$Present" "deeds" "I") {x : Int32} (hdg : decode cc pc = .ok (.putfield idx, 3)) (kk : ∀ (H : Heap) (locs : List Loc), Zx wC g (Aw 82 g s.heap.size) s H locs (sI u 12 x) → W p l e R s m args below meth c H locs 0 0 Q (F0 m (pc + 3) ls rest)) : W p l e R s m args below meth c H locs 0 0 Q (F0 m pc ls (.int x :: .ref (g.2.2 42) :: rest)) :=
  r_put C wokC Z (T := TX3) inlX3 tyX3 tyX3_ok nmX3 rfl (oC_42 g u) (k := 7) (by decide) hl rfl (ty := .int) (by decide +kernel) rfl rfl (Nat.le_of_ble_eq_true rfl) rfl hdg kk
theorem aC_43 (g : Gx) (u : St) {f : Nat → Int32} (hf : u.2.1 30 = f) : (wC g u)[43]? = some (g.2.2 43, .inl (g.2.1.1, 24, .inl f)) := hf ▸ rfl
theorem sC_43 (g : Gx) (u : St) (f : Nat → Int32) : (wC g u).set 43 (g.2.2 43, .inl (g.2.1.1, 24, .inl f)) = wC g (sA u 30 f) := rfl
theorem aC_44 (g : Gx) (u : St) : (wC g u)[44]? = some (g.2.2 44, .inl (g.2.1.2.1, 5, .inr (.inr (.inr (.inr (fun i => some (g.2.2 (45 + i)))))))) := rfl
theorem arC_44 (g : Gx) (u : St) {k : Nat} (hk : k < 5) {f : Nat → Int32} (hf : u.2.1 (31 + k) = f) : (wC g u)[45 + k]? = some (g.2.2 (45 + k), .inl (g.2.1.1, 4, .inl f)) :=
  hf ▸
  match k, hk with
  | 0, _ => rfl
  | 1, _ => rfl
  | 2, _ => rfl
  | 3, _ => rfl
  | 4, _ => rfl
theorem srC_44 (g : Gx) (u : St) {k : Nat} (hk : k < 5) (f : Nat → Int32) : (wC g u).set (45 + k) (g.2.2 (45 + k), .inl (g.2.1.1, 4, .inl f)) = wC g (sA u (31 + k) f) :=
  match k, hk with
  | 0, _ => rfl
  | 1, _ => rfl
  | 2, _ => rfl
  | 3, _ => rfl
  | 4, _ => rfl
theorem aC_50 (g : Gx) (u : St) {f : Nat → Int32} (hf : u.2.1 36 = f) : (wC g u)[50]? = some (g.2.2 50, .inl (g.2.1.1, 10, .inl f)) := hf ▸ rfl
theorem sC_50 (g : Gx) (u : St) (f : Nat → Int32) : (wC g u).set 50 (g.2.2 50, .inl (g.2.1.1, 10, .inl f)) = wC g (sA u 36 f) := rfl
theorem aC_51 (g : Gx) (u : St) {f : Nat → Int32} (hf : u.2.1 37 = f) : (wC g u)[51]? = some (g.2.2 51, .inl (g.2.1.1, 10, .inl f)) := hf ▸ rfl
theorem sC_51 (g : Gx) (u : St) (f : Nat → Int32) : (wC g u).set 51 (g.2.2 51, .inl (g.2.1.1, 10, .inl f)) = wC g (sA u 37 f) := rfl
theorem aC_52 (g : Gx) (u : St) {f : Nat → Int32} (hf : u.2.1 38 = f) : (wC g u)[52]? = some (g.2.2 52, .inl (g.2.1.1, 10, .inl f)) := hf ▸ rfl
theorem sC_52 (g : Gx) (u : St) (f : Nat → Int32) : (wC g u).set 52 (g.2.2 52, .inl (g.2.1.1, 10, .inl f)) = wC g (sA u 38 f) := rfl
theorem oC_53 (g : Gx) (u : St) : (wC g u)[53]? = some (g.2.2 53, .inr (0, [.ref (g.2.2 54), .ref (g.2.2 55), .int (u.1 13), .ref (g.2.2 56), .ref (g.2.2 57), .int (u.1 14)])) := rfl
theorem gC_53_0 (C : Cx p s m meth c args cc own nL ret 82 g) (Z : Zx wC g (Aw 82 g s.heap.size) s H locs u) (hl : FL s args own idx "AskedCocks$Clues" "facedHours" "[I") (hdg : decode cc pc = .ok (.getfield idx, 3)) (kk : W p l e R s m args below meth c H locs 0 0 Q (F0 m (pc + 3) ls (.ref (g.2.2 54) :: rest))) : W p l e R s m args below meth c H locs 0 0 Q (F0 m pc ls (.ref (g.2.2 53) :: rest)) :=
  r_get C Z (T := TX0) inlX0 rfl (oC_53 g u) (k := 0) (by decide) hl rfl hdg kk
theorem gC_53_1 (C : Cx p s m meth c args cc own nL ret 82 g) (Z : Zx wC g (Aw 82 g s.heap.size) s H locs u) (hl : FL s args own idx "AskedCocks$Clues" "facedSides" "[I") (hdg : decode cc pc = .ok (.getfield idx, 3)) (kk : W p l e R s m args below meth c H locs 0 0 Q (F0 m (pc + 3) ls (.ref (g.2.2 55) :: rest))) : W p l e R s m args below meth c H locs 0 0 Q (F0 m pc ls (.ref (g.2.2 53) :: rest)) :=
  r_get C Z (T := TX0) inlX0 rfl (oC_53 g u) (k := 1) (by decide) hl rfl hdg kk
theorem gC_53_2 (C : Cx p s m meth c args cc own nL ret 82 g) (Z : Zx wC g (Aw 82 g s.heap.size) s H locs u) (hl : FL s args own idx "AskedCocks$Clues" "facedCount" "I") (hdg : decode cc pc = .ok (.getfield idx, 3)) {x : Int32} (hx : u.1 13 = x) (kk : W p l e R s m args below meth c H locs 0 0 Q (F0 m (pc + 3) ls (.int x :: rest))) : W p l e R s m args below meth c H locs 0 0 Q (F0 m pc ls (.ref (g.2.2 53) :: rest)) :=
  r_get C Z (T := TX0) inlX0 rfl (oC_53 g u) (k := 2) (by decide) hl (v := .int x) (by rw [← hx]; rfl) hdg kk
theorem pC_53_2 (C : Cx p s m meth c args cc own nL ret 82 g) (Z : Zx wC g (Aw 82 g s.heap.size) s H locs u) (hl : FL s args own idx "AskedCocks$Clues" "facedCount" "I") {x : Int32} (hdg : decode cc pc = .ok (.putfield idx, 3)) (kk : ∀ (H : Heap) (locs : List Loc), Zx wC g (Aw 82 g s.heap.size) s H locs (sI u 13 x) → W p l e R s m args below meth c H locs 0 0 Q (F0 m (pc + 3) ls rest)) : W p l e R s m args below meth c H locs 0 0 Q (F0 m pc ls (.int x :: .ref (g.2.2 53) :: rest)) :=
  r_put C wokC Z (T := TX0) inlX0 tyX0 tyX0_ok nmX0 rfl (oC_53 g u) (k := 2) (by decide) hl rfl (ty := .int) (by decide +kernel) rfl rfl (Nat.le_of_ble_eq_true rfl) rfl hdg kk
theorem gC_53_3 (C : Cx p s m meth c args cc own nL ret 82 g) (Z : Zx wC g (Aw 82 g s.heap.size) s H locs u) (hl : FL s args own idx "AskedCocks$Clues" "metCells" "[I") (hdg : decode cc pc = .ok (.getfield idx, 3)) (kk : W p l e R s m args below meth c H locs 0 0 Q (F0 m (pc + 3) ls (.ref (g.2.2 56) :: rest))) : W p l e R s m args below meth c H locs 0 0 Q (F0 m pc ls (.ref (g.2.2 53) :: rest)) :=
  r_get C Z (T := TX0) inlX0 rfl (oC_53 g u) (k := 3) (by decide) hl rfl hdg kk
theorem gC_53_4 (C : Cx p s m meth c args cc own nL ret 82 g) (Z : Zx wC g (Aw 82 g s.heap.size) s H locs u) (hl : FL s args own idx "AskedCocks$Clues" "metHours" "[I") (hdg : decode cc pc = .ok (.getfield idx, 3)) (kk : W p l e R s m args below meth c H locs 0 0 Q (F0 m (pc + 3) ls (.ref (g.2.2 57) :: rest))) : W p l e R s m args below meth c H locs 0 0 Q (F0 m pc ls (.ref (g.2.2 53) :: rest)) :=
  r_get C Z (T := TX0) inlX0 rfl (oC_53 g u) (k := 4) (by decide) hl rfl hdg kk
theorem gC_53_5 (C : Cx p s m meth c args cc own nL ret 82 g) (Z : Zx wC g (Aw 82 g s.heap.size) s H locs u) (hl : FL s args own idx "AskedCocks$Clues" "metCount" "I") (hdg : decode cc pc = .ok (.getfield idx, 3)) {x : Int32} (hx : u.1 14 = x) (kk : W p l e R s m args below meth c H locs 0 0 Q (F0 m (pc + 3) ls (.int x :: rest))) : W p l e R s m args below meth c H locs 0 0 Q (F0 m pc ls (.ref (g.2.2 53) :: rest)) :=
  r_get C Z (T := TX0) inlX0 rfl (oC_53 g u) (k := 5) (by decide) hl (v := .int x) (by rw [← hx]; rfl) hdg kk
theorem pC_53_5 (C : Cx p s m meth c args cc own nL ret 82 g) (Z : Zx wC g (Aw 82 g s.heap.size) s H locs u) (hl : FL s args own idx "AskedCocks$Clues" "metCount" "I") {x : Int32} (hdg : decode cc pc = .ok (.putfield idx, 3)) (kk : ∀ (H : Heap) (locs : List Loc), Zx wC g (Aw 82 g s.heap.size) s H locs (sI u 14 x) → W p l e R s m args below meth c H locs 0 0 Q (F0 m (pc + 3) ls rest)) : W p l e R s m args below meth c H locs 0 0 Q (F0 m pc ls (.int x :: .ref (g.2.2 53) :: rest)) :=
  r_put C wokC Z (T := TX0) inlX0 tyX0 tyX0_ok nmX0 rfl (oC_53 g u) (k := 5) (by decide) hl rfl (ty := .int) (by decide +kernel) rfl rfl (Nat.le_of_ble_eq_true rfl) rfl hdg kk
theorem aC_54 (g : Gx) (u : St) {f : Nat → Int32} (hf : u.2.1 39 = f) : (wC g u)[54]? = some (g.2.2 54, .inl (g.2.1.1, 6, .inl f)) := hf ▸ rfl
theorem sC_54 (g : Gx) (u : St) (f : Nat → Int32) : (wC g u).set 54 (g.2.2 54, .inl (g.2.1.1, 6, .inl f)) = wC g (sA u 39 f) := rfl
theorem aC_55 (g : Gx) (u : St) {f : Nat → Int32} (hf : u.2.1 40 = f) : (wC g u)[55]? = some (g.2.2 55, .inl (g.2.1.1, 6, .inl f)) := hf ▸ rfl
theorem sC_55 (g : Gx) (u : St) (f : Nat → Int32) : (wC g u).set 55 (g.2.2 55, .inl (g.2.1.1, 6, .inl f)) = wC g (sA u 40 f) := rfl
theorem aC_56 (g : Gx) (u : St) {f : Nat → Int32} (hf : u.2.1 41 = f) : (wC g u)[56]? = some (g.2.2 56, .inl (g.2.1.1, 6, .inl f)) := hf ▸ rfl
theorem sC_56 (g : Gx) (u : St) (f : Nat → Int32) : (wC g u).set 56 (g.2.2 56, .inl (g.2.1.1, 6, .inl f)) = wC g (sA u 41 f) := rfl
theorem aC_57 (g : Gx) (u : St) {f : Nat → Int32} (hf : u.2.1 42 = f) : (wC g u)[57]? = some (g.2.2 57, .inl (g.2.1.1, 6, .inl f)) := hf ▸ rfl
theorem sC_57 (g : Gx) (u : St) (f : Nat → Int32) : (wC g u).set 57 (g.2.2 57, .inl (g.2.1.1, 6, .inl f)) = wC g (sA u 42 f) := rfl
theorem oC_58 (g : Gx) (u : St) : (wC g u)[58]? = some (g.2.2 58, .inr (2, [.long u.2.2])) := rfl
theorem gC_58_0 (C : Cx p s m meth c args cc own nL ret 82 g) (Z : Zx wC g (Aw 82 g s.heap.size) s H locs u) (hl : FL s args own idx "AskedCocks$Kinds" "trace" "J") (hdg : decode cc pc = .ok (.getfield idx, 3)) {x : Int64} (hx : u.2.2 = x) (kk : W p l e R s m args below meth c H locs 0 0 Q (F0 m (pc + 3) ls (.long x :: rest))) : W p l e R s m args below meth c H locs 0 0 Q (F0 m pc ls (.ref (g.2.2 58) :: rest)) :=
  r_get C Z (T := TX2) inlX2 rfl (oC_58 g u) (k := 0) (by decide) hl (v := .long x) (by rw [← hx]; rfl) hdg kk
theorem pC_58_0 (C : Cx p s m meth c args cc own nL ret 82 g) (Z : Zx wC g (Aw 82 g s.heap.size) s H locs u) (hl : FL s args own idx "AskedCocks$Kinds" "trace" "J") {x : Int64} (hdg : decode cc pc = .ok (.putfield idx, 3)) (kk : ∀ (H : Heap) (locs : List Loc), Zx wC g (Aw 82 g s.heap.size) s H locs (sJ u x) → W p l e R s m args below meth c H locs 0 0 Q (F0 m (pc + 3) ls rest)) : W p l e R s m args below meth c H locs 0 0 Q (F0 m pc ls (.long x :: .ref (g.2.2 58) :: rest)) :=
  r_put C wokC Z (T := TX2) inlX2 tyX2 tyX2_ok nmX2 rfl (oC_58 g u) (k := 0) (by decide) hl rfl (ty := .long) (by decide +kernel) rfl rfl (Nat.le_of_ble_eq_true rfl) rfl hdg kk
theorem aC_59 (g : Gx) (u : St) : (wC g u)[59]? = some (g.2.2 59, .inl (g.2.1.2.2.1, 2, .inr (.inr (.inr (.inr (fun i => some (g.2.2 (60 + 11 * i)))))))) := rfl
theorem oC_60 (g : Gx) (u : St) : (wC g u)[60]? = some (g.2.2 60, .inr (3, [.int (u.1 15), .int (u.1 16), .ref (g.2.2 61), .ref (g.2.2 62), .ref (g.2.2 68), .ref (g.2.2 69), .ref (g.2.2 70), .int (u.1 17)])) := rfl
theorem gC_60_0 (C : Cx p s m meth c args cc own nL ret 82 g) (Z : Zx wC g (Aw 82 g s.heap.size) s H locs u) (hl : FL s args own idx "AskedCocks$Present" "hour" "I") (hdg : decode cc pc = .ok (.getfield idx, 3)) {x : Int32} (hx : u.1 15 = x) (kk : W p l e R s m args below meth c H locs 0 0 Q (F0 m (pc + 3) ls (.int x :: rest))) : W p l e R s m args below meth c H locs 0 0 Q (F0 m pc ls (.ref (g.2.2 60) :: rest)) :=
  r_get C Z (T := TX3) inlX3 rfl (oC_60 g u) (k := 0) (by decide) hl (v := .int x) (by rw [← hx]; rfl) hdg kk
theorem pC_60_0 (C : Cx p s m meth c args cc own nL ret 82 g) (Z : Zx wC g (Aw 82 g s.heap.size) s H locs u) (hl : FL s args own idx "AskedCocks$Present" "hour" "I") {x : Int32} (hdg : decode cc pc = .ok (.putfield idx, 3)) (kk : ∀ (H : Heap) (locs : List Loc), Zx wC g (Aw 82 g s.heap.size) s H locs (sI u 15 x) → W p l e R s m args below meth c H locs 0 0 Q (F0 m (pc + 3) ls rest)) : W p l e R s m args below meth c H locs 0 0 Q (F0 m pc ls (.int x :: .ref (g.2.2 60) :: rest)) :=
  r_put C wokC Z (T := TX3) inlX3 tyX3 tyX3_ok nmX3 rfl (oC_60 g u) (k := 0) (by decide) hl rfl (ty := .int) (by decide +kernel) rfl rfl (Nat.le_of_ble_eq_true rfl) rfl hdg kk
theorem gC_60_1 (C : Cx p s m meth c args cc own nL ret 82 g) (Z : Zx wC g (Aw 82 g s.heap.size) s H locs u) (hl : FL s args own idx "AskedCocks$Present" "asked" "I") (hdg : decode cc pc = .ok (.getfield idx, 3)) {x : Int32} (hx : u.1 16 = x) (kk : W p l e R s m args below meth c H locs 0 0 Q (F0 m (pc + 3) ls (.int x :: rest))) : W p l e R s m args below meth c H locs 0 0 Q (F0 m pc ls (.ref (g.2.2 60) :: rest)) :=
  r_get C Z (T := TX3) inlX3 rfl (oC_60 g u) (k := 1) (by decide) hl (v := .int x) (by rw [← hx]; rfl) hdg kk
theorem pC_60_1 (C : Cx p s m meth c args cc own nL ret 82 g) (Z : Zx wC g (Aw 82 g s.heap.size) s H locs u) (hl : FL s args own idx "AskedCocks$Present" "asked" "I") {x : Int32} (hdg : decode cc pc = .ok (.putfield idx, 3)) (kk : ∀ (H : Heap) (locs : List Loc), Zx wC g (Aw 82 g s.heap.size) s H locs (sI u 16 x) → W p l e R s m args below meth c H locs 0 0 Q (F0 m (pc + 3) ls rest)) : W p l e R s m args below meth c H locs 0 0 Q (F0 m pc ls (.int x :: .ref (g.2.2 60) :: rest)) :=
  r_put C wokC Z (T := TX3) inlX3 tyX3 tyX3_ok nmX3 rfl (oC_60 g u) (k := 1) (by decide) hl rfl (ty := .int) (by decide +kernel) rfl rfl (Nat.le_of_ble_eq_true rfl) rfl hdg kk
theorem gC_60_2 (C : Cx p s m meth c args cc own nL ret 82 g) (Z : Zx wC g (Aw 82 g s.heap.size) s H locs u) (hl : FL s args own idx "AskedCocks$Present" "roofs" "[I") (hdg : decode cc pc = .ok (.getfield idx, 3)) (kk : W p l e R s m args below meth c H locs 0 0 Q (F0 m (pc + 3) ls (.ref (g.2.2 61) :: rest))) : W p l e R s m args below meth c H locs 0 0 Q (F0 m pc ls (.ref (g.2.2 60) :: rest)) :=
  r_get C Z (T := TX3) inlX3 rfl (oC_60 g u) (k := 2) (by decide) hl rfl hdg kk
theorem gC_60_3 (C : Cx p s m meth c args cc own nL ret 82 g) (Z : Zx wC g (Aw 82 g s.heap.size) s H locs u) (hl : FL s args own idx "AskedCocks$Present" "seen" "[[I") (hdg : decode cc pc = .ok (.getfield idx, 3)) (kk : W p l e R s m args below meth c H locs 0 0 Q (F0 m (pc + 3) ls (.ref (g.2.2 62) :: rest))) : W p l e R s m args below meth c H locs 0 0 Q (F0 m pc ls (.ref (g.2.2 60) :: rest)) :=
  r_get C Z (T := TX3) inlX3 rfl (oC_60 g u) (k := 3) (by decide) hl rfl hdg kk
theorem gC_60_4 (C : Cx p s m meth c args cc own nL ret 82 g) (Z : Zx wC g (Aw 82 g s.heap.size) s H locs u) (hl : FL s args own idx "AskedCocks$Present" "deedSorts" "[I") (hdg : decode cc pc = .ok (.getfield idx, 3)) (kk : W p l e R s m args below meth c H locs 0 0 Q (F0 m (pc + 3) ls (.ref (g.2.2 68) :: rest))) : W p l e R s m args below meth c H locs 0 0 Q (F0 m pc ls (.ref (g.2.2 60) :: rest)) :=
  r_get C Z (T := TX3) inlX3 rfl (oC_60 g u) (k := 4) (by decide) hl rfl hdg kk
theorem gC_60_5 (C : Cx p s m meth c args cc own nL ret 82 g) (Z : Zx wC g (Aw 82 g s.heap.size) s H locs u) (hl : FL s args own idx "AskedCocks$Present" "deedNumbers" "[I") (hdg : decode cc pc = .ok (.getfield idx, 3)) (kk : W p l e R s m args below meth c H locs 0 0 Q (F0 m (pc + 3) ls (.ref (g.2.2 69) :: rest))) : W p l e R s m args below meth c H locs 0 0 Q (F0 m pc ls (.ref (g.2.2 60) :: rest)) :=
  r_get C Z (T := TX3) inlX3 rfl (oC_60 g u) (k := 5) (by decide) hl rfl hdg kk
theorem gC_60_6 (C : Cx p s m meth c args cc own nL ret 82 g) (Z : Zx wC g (Aw 82 g s.heap.size) s H locs u) (hl : FL s args own idx "AskedCocks$Present" "deedRoofs" "[I") (hdg : decode cc pc = .ok (.getfield idx, 3)) (kk : W p l e R s m args below meth c H locs 0 0 Q (F0 m (pc + 3) ls (.ref (g.2.2 70) :: rest))) : W p l e R s m args below meth c H locs 0 0 Q (F0 m pc ls (.ref (g.2.2 60) :: rest)) :=
  r_get C Z (T := TX3) inlX3 rfl (oC_60 g u) (k := 6) (by decide) hl rfl hdg kk
theorem gC_60_7 (C : Cx p s m meth c args cc own nL ret 82 g) (Z : Zx wC g (Aw 82 g s.heap.size) s H locs u) (hl : FL s args own idx "AskedCocks$Present" "deeds" "I") (hdg : decode cc pc = .ok (.getfield idx, 3)) {x : Int32} (hx : u.1 17 = x) (kk : W p l e R s m args below meth c H locs 0 0 Q (F0 m (pc + 3) ls (.int x :: rest))) : W p l e R s m args below meth c H locs 0 0 Q (F0 m pc ls (.ref (g.2.2 60) :: rest)) :=
  r_get C Z (T := TX3) inlX3 rfl (oC_60 g u) (k := 7) (by decide) hl (v := .int x) (by rw [← hx]; rfl) hdg kk
theorem pC_60_7 (C : Cx p s m meth c args cc own nL ret 82 g) (Z : Zx wC g (Aw 82 g s.heap.size) s H locs u) (hl : FL s args own idx "AskedCocks$Present" "deeds" "I") {x : Int32} (hdg : decode cc pc = .ok (.putfield idx, 3)) (kk : ∀ (H : Heap) (locs : List Loc), Zx wC g (Aw 82 g s.heap.size) s H locs (sI u 17 x) → W p l e R s m args below meth c H locs 0 0 Q (F0 m (pc + 3) ls rest)) : W p l e R s m args below meth c H locs 0 0 Q (F0 m pc ls (.int x :: .ref (g.2.2 60) :: rest)) :=
  r_put C wokC Z (T := TX3) inlX3 tyX3 tyX3_ok nmX3 rfl (oC_60 g u) (k := 7) (by decide) hl rfl (ty := .int) (by decide +kernel) rfl rfl (Nat.le_of_ble_eq_true rfl) rfl hdg kk
theorem aC_61 (g : Gx) (u : St) {f : Nat → Int32} (hf : u.2.1 43 = f) : (wC g u)[61]? = some (g.2.2 61, .inl (g.2.1.1, 24, .inl f)) := hf ▸ rfl
theorem sC_61 (g : Gx) (u : St) (f : Nat → Int32) : (wC g u).set 61 (g.2.2 61, .inl (g.2.1.1, 24, .inl f)) = wC g (sA u 43 f) := rfl
theorem aC_62 (g : Gx) (u : St) : (wC g u)[62]? = some (g.2.2 62, .inl (g.2.1.2.1, 5, .inr (.inr (.inr (.inr (fun i => some (g.2.2 (63 + i)))))))) := rfl
theorem arC_62 (g : Gx) (u : St) {k : Nat} (hk : k < 5) {f : Nat → Int32} (hf : u.2.1 (44 + k) = f) : (wC g u)[63 + k]? = some (g.2.2 (63 + k), .inl (g.2.1.1, 4, .inl f)) :=
  hf ▸
  match k, hk with
  | 0, _ => rfl
  | 1, _ => rfl
  | 2, _ => rfl
  | 3, _ => rfl
  | 4, _ => rfl
theorem srC_62 (g : Gx) (u : St) {k : Nat} (hk : k < 5) (f : Nat → Int32) : (wC g u).set (63 + k) (g.2.2 (63 + k), .inl (g.2.1.1, 4, .inl f)) = wC g (sA u (44 + k) f) :=
  match k, hk with
  | 0, _ => rfl
  | 1, _ => rfl
  | 2, _ => rfl
  | 3, _ => rfl
  | 4, _ => rfl
theorem aC_68 (g : Gx) (u : St) {f : Nat → Int32} (hf : u.2.1 49 = f) : (wC g u)[68]? = some (g.2.2 68, .inl (g.2.1.1, 10, .inl f)) := hf ▸ rfl
theorem sC_68 (g : Gx) (u : St) (f : Nat → Int32) : (wC g u).set 68 (g.2.2 68, .inl (g.2.1.1, 10, .inl f)) = wC g (sA u 49 f) := rfl
theorem aC_69 (g : Gx) (u : St) {f : Nat → Int32} (hf : u.2.1 50 = f) : (wC g u)[69]? = some (g.2.2 69, .inl (g.2.1.1, 10, .inl f)) := hf ▸ rfl
theorem sC_69 (g : Gx) (u : St) (f : Nat → Int32) : (wC g u).set 69 (g.2.2 69, .inl (g.2.1.1, 10, .inl f)) = wC g (sA u 50 f) := rfl
theorem aC_70 (g : Gx) (u : St) {f : Nat → Int32} (hf : u.2.1 51 = f) : (wC g u)[70]? = some (g.2.2 70, .inl (g.2.1.1, 10, .inl f)) := hf ▸ rfl
theorem sC_70 (g : Gx) (u : St) (f : Nat → Int32) : (wC g u).set 70 (g.2.2 70, .inl (g.2.1.1, 10, .inl f)) = wC g (sA u 51 f) := rfl
theorem oC_71 (g : Gx) (u : St) : (wC g u)[71]? = some (g.2.2 71, .inr (3, [.int (u.1 18), .int (u.1 19), .ref (g.2.2 72), .ref (g.2.2 73), .ref (g.2.2 79), .ref (g.2.2 80), .ref (g.2.2 81), .int (u.1 20)])) := rfl
theorem gC_71_0 (C : Cx p s m meth c args cc own nL ret 82 g) (Z : Zx wC g (Aw 82 g s.heap.size) s H locs u) (hl : FL s args own idx "AskedCocks$Present" "hour" "I") (hdg : decode cc pc = .ok (.getfield idx, 3)) {x : Int32} (hx : u.1 18 = x) (kk : W p l e R s m args below meth c H locs 0 0 Q (F0 m (pc + 3) ls (.int x :: rest))) : W p l e R s m args below meth c H locs 0 0 Q (F0 m pc ls (.ref (g.2.2 71) :: rest)) :=
  r_get C Z (T := TX3) inlX3 rfl (oC_71 g u) (k := 0) (by decide) hl (v := .int x) (by rw [← hx]; rfl) hdg kk
theorem pC_71_0 (C : Cx p s m meth c args cc own nL ret 82 g) (Z : Zx wC g (Aw 82 g s.heap.size) s H locs u) (hl : FL s args own idx "AskedCocks$Present" "hour" "I") {x : Int32} (hdg : decode cc pc = .ok (.putfield idx, 3)) (kk : ∀ (H : Heap) (locs : List Loc), Zx wC g (Aw 82 g s.heap.size) s H locs (sI u 18 x) → W p l e R s m args below meth c H locs 0 0 Q (F0 m (pc + 3) ls rest)) : W p l e R s m args below meth c H locs 0 0 Q (F0 m pc ls (.int x :: .ref (g.2.2 71) :: rest)) :=
  r_put C wokC Z (T := TX3) inlX3 tyX3 tyX3_ok nmX3 rfl (oC_71 g u) (k := 0) (by decide) hl rfl (ty := .int) (by decide +kernel) rfl rfl (Nat.le_of_ble_eq_true rfl) rfl hdg kk
theorem gC_71_1 (C : Cx p s m meth c args cc own nL ret 82 g) (Z : Zx wC g (Aw 82 g s.heap.size) s H locs u) (hl : FL s args own idx "AskedCocks$Present" "asked" "I") (hdg : decode cc pc = .ok (.getfield idx, 3)) {x : Int32} (hx : u.1 19 = x) (kk : W p l e R s m args below meth c H locs 0 0 Q (F0 m (pc + 3) ls (.int x :: rest))) : W p l e R s m args below meth c H locs 0 0 Q (F0 m pc ls (.ref (g.2.2 71) :: rest)) :=
  r_get C Z (T := TX3) inlX3 rfl (oC_71 g u) (k := 1) (by decide) hl (v := .int x) (by rw [← hx]; rfl) hdg kk
theorem pC_71_1 (C : Cx p s m meth c args cc own nL ret 82 g) (Z : Zx wC g (Aw 82 g s.heap.size) s H locs u) (hl : FL s args own idx "AskedCocks$Present" "asked" "I") {x : Int32} (hdg : decode cc pc = .ok (.putfield idx, 3)) (kk : ∀ (H : Heap) (locs : List Loc), Zx wC g (Aw 82 g s.heap.size) s H locs (sI u 19 x) → W p l e R s m args below meth c H locs 0 0 Q (F0 m (pc + 3) ls rest)) : W p l e R s m args below meth c H locs 0 0 Q (F0 m pc ls (.int x :: .ref (g.2.2 71) :: rest)) :=
  r_put C wokC Z (T := TX3) inlX3 tyX3 tyX3_ok nmX3 rfl (oC_71 g u) (k := 1) (by decide) hl rfl (ty := .int) (by decide +kernel) rfl rfl (Nat.le_of_ble_eq_true rfl) rfl hdg kk
theorem gC_71_2 (C : Cx p s m meth c args cc own nL ret 82 g) (Z : Zx wC g (Aw 82 g s.heap.size) s H locs u) (hl : FL s args own idx "AskedCocks$Present" "roofs" "[I") (hdg : decode cc pc = .ok (.getfield idx, 3)) (kk : W p l e R s m args below meth c H locs 0 0 Q (F0 m (pc + 3) ls (.ref (g.2.2 72) :: rest))) : W p l e R s m args below meth c H locs 0 0 Q (F0 m pc ls (.ref (g.2.2 71) :: rest)) :=
  r_get C Z (T := TX3) inlX3 rfl (oC_71 g u) (k := 2) (by decide) hl rfl hdg kk
theorem gC_71_3 (C : Cx p s m meth c args cc own nL ret 82 g) (Z : Zx wC g (Aw 82 g s.heap.size) s H locs u) (hl : FL s args own idx "AskedCocks$Present" "seen" "[[I") (hdg : decode cc pc = .ok (.getfield idx, 3)) (kk : W p l e R s m args below meth c H locs 0 0 Q (F0 m (pc + 3) ls (.ref (g.2.2 73) :: rest))) : W p l e R s m args below meth c H locs 0 0 Q (F0 m pc ls (.ref (g.2.2 71) :: rest)) :=
  r_get C Z (T := TX3) inlX3 rfl (oC_71 g u) (k := 3) (by decide) hl rfl hdg kk
theorem gC_71_4 (C : Cx p s m meth c args cc own nL ret 82 g) (Z : Zx wC g (Aw 82 g s.heap.size) s H locs u) (hl : FL s args own idx "AskedCocks$Present" "deedSorts" "[I") (hdg : decode cc pc = .ok (.getfield idx, 3)) (kk : W p l e R s m args below meth c H locs 0 0 Q (F0 m (pc + 3) ls (.ref (g.2.2 79) :: rest))) : W p l e R s m args below meth c H locs 0 0 Q (F0 m pc ls (.ref (g.2.2 71) :: rest)) :=
  r_get C Z (T := TX3) inlX3 rfl (oC_71 g u) (k := 4) (by decide) hl rfl hdg kk
theorem gC_71_5 (C : Cx p s m meth c args cc own nL ret 82 g) (Z : Zx wC g (Aw 82 g s.heap.size) s H locs u) (hl : FL s args own idx "AskedCocks$Present" "deedNumbers" "[I") (hdg : decode cc pc = .ok (.getfield idx, 3)) (kk : W p l e R s m args below meth c H locs 0 0 Q (F0 m (pc + 3) ls (.ref (g.2.2 80) :: rest))) : W p l e R s m args below meth c H locs 0 0 Q (F0 m pc ls (.ref (g.2.2 71) :: rest)) :=
  r_get C Z (T := TX3) inlX3 rfl (oC_71 g u) (k := 5) (by decide) hl rfl hdg kk
theorem gC_71_6 (C : Cx p s m meth c args cc own nL ret 82 g) (Z : Zx wC g (Aw 82 g s.heap.size) s H locs u) (hl : FL s args own idx "AskedCocks$Present" "deedRoofs" "[I") (hdg : decode cc pc = .ok (.getfield idx, 3)) (kk : W p l e R s m args below meth c H locs 0 0 Q (F0 m (pc + 3) ls (.ref (g.2.2 81) :: rest))) : W p l e R s m args below meth c H locs 0 0 Q (F0 m pc ls (.ref (g.2.2 71) :: rest)) :=
  r_get C Z (T := TX3) inlX3 rfl (oC_71 g u) (k := 6) (by decide) hl rfl hdg kk
theorem gC_71_7 (C : Cx p s m meth c args cc own nL ret 82 g) (Z : Zx wC g (Aw 82 g s.heap.size) s H locs u) (hl : FL s args own idx "AskedCocks$Present" "deeds" "I") (hdg : decode cc pc = .ok (.getfield idx, 3)) {x : Int32} (hx : u.1 20 = x) (kk : W p l e R s m args below meth c H locs 0 0 Q (F0 m (pc + 3) ls (.int x :: rest))) : W p l e R s m args below meth c H locs 0 0 Q (F0 m pc ls (.ref (g.2.2 71) :: rest)) :=
  r_get C Z (T := TX3) inlX3 rfl (oC_71 g u) (k := 7) (by decide) hl (v := .int x) (by rw [← hx]; rfl) hdg kk
theorem pC_71_7 (C : Cx p s m meth c args cc own nL ret 82 g) (Z : Zx wC g (Aw 82 g s.heap.size) s H locs u) (hl : FL s args own idx "AskedCocks$Present" "deeds" "I") {x : Int32} (hdg : decode cc pc = .ok (.putfield idx, 3)) (kk : ∀ (H : Heap) (locs : List Loc), Zx wC g (Aw 82 g s.heap.size) s H locs (sI u 20 x) → W p l e R s m args below meth c H locs 0 0 Q (F0 m (pc + 3) ls rest)) : W p l e R s m args below meth c H locs 0 0 Q (F0 m pc ls (.int x :: .ref (g.2.2 71) :: rest)) :=
  r_put C wokC Z (T := TX3) inlX3 tyX3 tyX3_ok nmX3 rfl (oC_71 g u) (k := 7) (by decide) hl rfl (ty := .int) (by decide +kernel) rfl rfl (Nat.le_of_ble_eq_true rfl) rfl hdg kk
theorem aC_72 (g : Gx) (u : St) {f : Nat → Int32} (hf : u.2.1 52 = f) : (wC g u)[72]? = some (g.2.2 72, .inl (g.2.1.1, 24, .inl f)) := hf ▸ rfl
theorem sC_72 (g : Gx) (u : St) (f : Nat → Int32) : (wC g u).set 72 (g.2.2 72, .inl (g.2.1.1, 24, .inl f)) = wC g (sA u 52 f) := rfl
theorem aC_73 (g : Gx) (u : St) : (wC g u)[73]? = some (g.2.2 73, .inl (g.2.1.2.1, 5, .inr (.inr (.inr (.inr (fun i => some (g.2.2 (74 + i)))))))) := rfl
theorem arC_73 (g : Gx) (u : St) {k : Nat} (hk : k < 5) {f : Nat → Int32} (hf : u.2.1 (53 + k) = f) : (wC g u)[74 + k]? = some (g.2.2 (74 + k), .inl (g.2.1.1, 4, .inl f)) :=
  hf ▸
  match k, hk with
  | 0, _ => rfl
  | 1, _ => rfl
  | 2, _ => rfl
  | 3, _ => rfl
  | 4, _ => rfl
theorem srC_73 (g : Gx) (u : St) {k : Nat} (hk : k < 5) (f : Nat → Int32) : (wC g u).set (74 + k) (g.2.2 (74 + k), .inl (g.2.1.1, 4, .inl f)) = wC g (sA u (53 + k) f) :=
  match k, hk with
  | 0, _ => rfl
  | 1, _ => rfl
  | 2, _ => rfl
  | 3, _ => rfl
  | 4, _ => rfl
theorem aC_79 (g : Gx) (u : St) {f : Nat → Int32} (hf : u.2.1 58 = f) : (wC g u)[79]? = some (g.2.2 79, .inl (g.2.1.1, 10, .inl f)) := hf ▸ rfl
theorem sC_79 (g : Gx) (u : St) (f : Nat → Int32) : (wC g u).set 79 (g.2.2 79, .inl (g.2.1.1, 10, .inl f)) = wC g (sA u 58 f) := rfl
theorem aC_80 (g : Gx) (u : St) {f : Nat → Int32} (hf : u.2.1 59 = f) : (wC g u)[80]? = some (g.2.2 80, .inl (g.2.1.1, 10, .inl f)) := hf ▸ rfl
theorem sC_80 (g : Gx) (u : St) (f : Nat → Int32) : (wC g u).set 80 (g.2.2 80, .inl (g.2.1.1, 10, .inl f)) = wC g (sA u 59 f) := rfl
theorem aC_81 (g : Gx) (u : St) {f : Nat → Int32} (hf : u.2.1 60 = f) : (wC g u)[81]? = some (g.2.2 81, .inl (g.2.1.1, 10, .inl f)) := hf ▸ rfl
theorem sC_81 (g : Gx) (u : St) (f : Nat → Int32) : (wC g u).set 81 (g.2.2 81, .inl (g.2.1.1, 10, .inl f)) = wC g (sA u 60 f) := rfl
theorem oM_0 (g : Gx) (u : St) : (wM g u)[0]? = some (g.2.2 0, .inr (8, [.int (u.1 0), .ref (g.2.2 1), .ref (g.2.2 2), .ref (g.2.2 3), .ref (g.2.2 4), .int (u.1 1), .ref (g.2.2 5), .ref (g.2.2 6), .int (u.1 2), .ref (g.2.2 7), .ref (g.2.2 8), .ref (g.2.2 9), .ref (g.2.2 10), .int (u.1 3), .ref (g.2.2 11), .int (u.1 4), .ref (g.2.2 12), .long u.2.2, .ref (g.2.2 13), .int (u.1 5), .int (u.1 6), .int (u.1 7), .int (u.1 8), .int (u.1 9), .int (u.1 10), .int (u.1 11), .ref (g.2.2 14), .int (u.1 12), .ref (g.2.2 15), .ref (g.2.2 16), .ref (g.2.2 17), .ref (g.2.2 18), .int (u.1 13), .ref (g.2.2 19), .ref (g.2.2 20), .int (u.1 14), .ref (g.2.2 21)])) := rfl
theorem gM_0_0 (C : Cx p s m meth c args cc own nL ret 22 g) (Z : Zx wM g (Aw 22 g s.heap.size) s H locs u) (hl : FL s args own idx "AskedCocksModel" "cocks" "I") (hdg : decode cc pc = .ok (.getfield idx, 3)) {x : Int32} (hx : u.1 0 = x) (kk : W p l e R s m args below meth c H locs 0 0 Q (F0 m (pc + 3) ls (.int x :: rest))) : W p l e R s m args below meth c H locs 0 0 Q (F0 m pc ls (.ref (g.2.2 0) :: rest)) :=
  r_get C Z (T := TX8) inlX8 rfl (oM_0 g u) (k := 0) (by decide) hl (v := .int x) (by rw [← hx]; rfl) hdg kk
theorem pM_0_0 (C : Cx p s m meth c args cc own nL ret 22 g) (Z : Zx wM g (Aw 22 g s.heap.size) s H locs u) (hl : FL s args own idx "AskedCocksModel" "cocks" "I") {x : Int32} (hdg : decode cc pc = .ok (.putfield idx, 3)) (kk : ∀ (H : Heap) (locs : List Loc), Zx wM g (Aw 22 g s.heap.size) s H locs (sI u 0 x) → W p l e R s m args below meth c H locs 0 0 Q (F0 m (pc + 3) ls rest)) : W p l e R s m args below meth c H locs 0 0 Q (F0 m pc ls (.int x :: .ref (g.2.2 0) :: rest)) :=
  r_put C wokM Z (T := TX8) inlX8 tyX8 tyX8_ok nmX8 rfl (oM_0 g u) (k := 0) (by decide) hl rfl (ty := .int) (by decide +kernel) rfl rfl (Nat.le_of_ble_eq_true rfl) rfl hdg kk
theorem gM_0_1 (C : Cx p s m meth c args cc own nL ret 22 g) (Z : Zx wM g (Aw 22 g s.heap.size) s H locs u) (hl : FL s args own idx "AskedCocksModel" "places" "[I") (hdg : decode cc pc = .ok (.getfield idx, 3)) (kk : W p l e R s m args below meth c H locs 0 0 Q (F0 m (pc + 3) ls (.ref (g.2.2 1) :: rest))) : W p l e R s m args below meth c H locs 0 0 Q (F0 m pc ls (.ref (g.2.2 0) :: rest)) :=
  r_get C Z (T := TX8) inlX8 rfl (oM_0 g u) (k := 1) (by decide) hl rfl hdg kk
theorem gM_0_2 (C : Cx p s m meth c args cc own nL ret 22 g) (Z : Zx wM g (Aw 22 g s.heap.size) s H locs u) (hl : FL s args own idx "AskedCocksModel" "rises" "[I") (hdg : decode cc pc = .ok (.getfield idx, 3)) (kk : W p l e R s m args below meth c H locs 0 0 Q (F0 m (pc + 3) ls (.ref (g.2.2 2) :: rest))) : W p l e R s m args below meth c H locs 0 0 Q (F0 m pc ls (.ref (g.2.2 0) :: rest)) :=
  r_get C Z (T := TX8) inlX8 rfl (oM_0 g u) (k := 2) (by decide) hl rfl hdg kk
theorem gM_0_3 (C : Cx p s m meth c args cc own nL ret 22 g) (Z : Zx wM g (Aw 22 g s.heap.size) s H locs u) (hl : FL s args own idx "AskedCocksModel" "sides" "[I") (hdg : decode cc pc = .ok (.getfield idx, 3)) (kk : W p l e R s m args below meth c H locs 0 0 Q (F0 m (pc + 3) ls (.ref (g.2.2 3) :: rest))) : W p l e R s m args below meth c H locs 0 0 Q (F0 m pc ls (.ref (g.2.2 0) :: rest)) :=
  r_get C Z (T := TX8) inlX8 rfl (oM_0 g u) (k := 3) (by decide) hl rfl hdg kk
theorem gM_0_4 (C : Cx p s m meth c args cc own nL ret 22 g) (Z : Zx wM g (Aw 22 g s.heap.size) s H locs u) (hl : FL s args own idx "AskedCocksModel" "turns" "[I") (hdg : decode cc pc = .ok (.getfield idx, 3)) (kk : W p l e R s m args below meth c H locs 0 0 Q (F0 m (pc + 3) ls (.ref (g.2.2 4) :: rest))) : W p l e R s m args below meth c H locs 0 0 Q (F0 m pc ls (.ref (g.2.2 0) :: rest)) :=
  r_get C Z (T := TX8) inlX8 rfl (oM_0 g u) (k := 4) (by decide) hl rfl hdg kk
theorem gM_0_5 (C : Cx p s m meth c args cc own nL ret 22 g) (Z : Zx wM g (Aw 22 g s.heap.size) s H locs u) (hl : FL s args own idx "AskedCocksModel" "people" "I") (hdg : decode cc pc = .ok (.getfield idx, 3)) {x : Int32} (hx : u.1 1 = x) (kk : W p l e R s m args below meth c H locs 0 0 Q (F0 m (pc + 3) ls (.int x :: rest))) : W p l e R s m args below meth c H locs 0 0 Q (F0 m pc ls (.ref (g.2.2 0) :: rest)) :=
  r_get C Z (T := TX8) inlX8 rfl (oM_0 g u) (k := 5) (by decide) hl (v := .int x) (by rw [← hx]; rfl) hdg kk
theorem pM_0_5 (C : Cx p s m meth c args cc own nL ret 22 g) (Z : Zx wM g (Aw 22 g s.heap.size) s H locs u) (hl : FL s args own idx "AskedCocksModel" "people" "I") {x : Int32} (hdg : decode cc pc = .ok (.putfield idx, 3)) (kk : ∀ (H : Heap) (locs : List Loc), Zx wM g (Aw 22 g s.heap.size) s H locs (sI u 1 x) → W p l e R s m args below meth c H locs 0 0 Q (F0 m (pc + 3) ls rest)) : W p l e R s m args below meth c H locs 0 0 Q (F0 m pc ls (.int x :: .ref (g.2.2 0) :: rest)) :=
  r_put C wokM Z (T := TX8) inlX8 tyX8 tyX8_ok nmX8 rfl (oM_0 g u) (k := 5) (by decide) hl rfl (ty := .int) (by decide +kernel) rfl rfl (Nat.le_of_ble_eq_true rfl) rfl hdg kk
theorem gM_0_6 (C : Cx p s m meth c args cc own nL ret 22 g) (Z : Zx wM g (Aw 22 g s.heap.size) s H locs u) (hl : FL s args own idx "AskedCocksModel" "starts" "[I") (hdg : decode cc pc = .ok (.getfield idx, 3)) (kk : W p l e R s m args below meth c H locs 0 0 Q (F0 m (pc + 3) ls (.ref (g.2.2 5) :: rest))) : W p l e R s m args below meth c H locs 0 0 Q (F0 m pc ls (.ref (g.2.2 0) :: rest)) :=
  r_get C Z (T := TX8) inlX8 rfl (oM_0 g u) (k := 6) (by decide) hl rfl hdg kk
theorem gM_0_7 (C : Cx p s m meth c args cc own nL ret 22 g) (Z : Zx wM g (Aw 22 g s.heap.size) s H locs u) (hl : FL s args own idx "AskedCocksModel" "speeds" "[I") (hdg : decode cc pc = .ok (.getfield idx, 3)) (kk : W p l e R s m args below meth c H locs 0 0 Q (F0 m (pc + 3) ls (.ref (g.2.2 6) :: rest))) : W p l e R s m args below meth c H locs 0 0 Q (F0 m pc ls (.ref (g.2.2 0) :: rest)) :=
  r_get C Z (T := TX8) inlX8 rfl (oM_0 g u) (k := 7) (by decide) hl rfl hdg kk
theorem gM_0_8 (C : Cx p s m meth c args cc own nL ret 22 g) (Z : Zx wM g (Aw 22 g s.heap.size) s H locs u) (hl : FL s args own idx "AskedCocksModel" "smokes" "I") (hdg : decode cc pc = .ok (.getfield idx, 3)) {x : Int32} (hx : u.1 2 = x) (kk : W p l e R s m args below meth c H locs 0 0 Q (F0 m (pc + 3) ls (.int x :: rest))) : W p l e R s m args below meth c H locs 0 0 Q (F0 m pc ls (.ref (g.2.2 0) :: rest)) :=
  r_get C Z (T := TX8) inlX8 rfl (oM_0 g u) (k := 8) (by decide) hl (v := .int x) (by rw [← hx]; rfl) hdg kk
theorem pM_0_8 (C : Cx p s m meth c args cc own nL ret 22 g) (Z : Zx wM g (Aw 22 g s.heap.size) s H locs u) (hl : FL s args own idx "AskedCocksModel" "smokes" "I") {x : Int32} (hdg : decode cc pc = .ok (.putfield idx, 3)) (kk : ∀ (H : Heap) (locs : List Loc), Zx wM g (Aw 22 g s.heap.size) s H locs (sI u 2 x) → W p l e R s m args below meth c H locs 0 0 Q (F0 m (pc + 3) ls rest)) : W p l e R s m args below meth c H locs 0 0 Q (F0 m pc ls (.int x :: .ref (g.2.2 0) :: rest)) :=
  r_put C wokM Z (T := TX8) inlX8 tyX8 tyX8_ok nmX8 rfl (oM_0 g u) (k := 8) (by decide) hl rfl (ty := .int) (by decide +kernel) rfl rfl (Nat.le_of_ble_eq_true rfl) rfl hdg kk
theorem gM_0_9 (C : Cx p s m meth c args cc own nL ret 22 g) (Z : Zx wM g (Aw 22 g s.heap.size) s H locs u) (hl : FL s args own idx "AskedCocksModel" "smoke" "[I") (hdg : decode cc pc = .ok (.getfield idx, 3)) (kk : W p l e R s m args below meth c H locs 0 0 Q (F0 m (pc + 3) ls (.ref (g.2.2 7) :: rest))) : W p l e R s m args below meth c H locs 0 0 Q (F0 m pc ls (.ref (g.2.2 0) :: rest)) :=
  r_get C Z (T := TX8) inlX8 rfl (oM_0 g u) (k := 9) (by decide) hl rfl hdg kk
theorem gM_0_10 (C : Cx p s m meth c args cc own nL ret 22 g) (Z : Zx wM g (Aw 22 g s.heap.size) s H locs u) (hl : FL s args own idx "AskedCocksModel" "st" "[I") (hdg : decode cc pc = .ok (.getfield idx, 3)) (kk : W p l e R s m args below meth c H locs 0 0 Q (F0 m (pc + 3) ls (.ref (g.2.2 8) :: rest))) : W p l e R s m args below meth c H locs 0 0 Q (F0 m pc ls (.ref (g.2.2 0) :: rest)) :=
  r_get C Z (T := TX8) inlX8 rfl (oM_0 g u) (k := 10) (by decide) hl rfl hdg kk
theorem gM_0_11 (C : Cx p s m meth c args cc own nL ret 22 g) (Z : Zx wM g (Aw 22 g s.heap.size) s H locs u) (hl : FL s args own idx "AskedCocksModel" "images" "[I") (hdg : decode cc pc = .ok (.getfield idx, 3)) (kk : W p l e R s m args below meth c H locs 0 0 Q (F0 m (pc + 3) ls (.ref (g.2.2 9) :: rest))) : W p l e R s m args below meth c H locs 0 0 Q (F0 m pc ls (.ref (g.2.2 0) :: rest)) :=
  r_get C Z (T := TX8) inlX8 rfl (oM_0 g u) (k := 11) (by decide) hl rfl hdg kk
theorem gM_0_12 (C : Cx p s m meth c args cc own nL ret 22 g) (Z : Zx wM g (Aw 22 g s.heap.size) s H locs u) (hl : FL s args own idx "AskedCocksModel" "isKept" "[Z") (hdg : decode cc pc = .ok (.getfield idx, 3)) (kk : W p l e R s m args below meth c H locs 0 0 Q (F0 m (pc + 3) ls (.ref (g.2.2 10) :: rest))) : W p l e R s m args below meth c H locs 0 0 Q (F0 m pc ls (.ref (g.2.2 0) :: rest)) :=
  r_get C Z (T := TX8) inlX8 rfl (oM_0 g u) (k := 12) (by decide) hl rfl hdg kk
theorem gM_0_13 (C : Cx p s m meth c args cc own nL ret 22 g) (Z : Zx wM g (Aw 22 g s.heap.size) s H locs u) (hl : FL s args own idx "AskedCocksModel" "facedMany" "I") (hdg : decode cc pc = .ok (.getfield idx, 3)) {x : Int32} (hx : u.1 3 = x) (kk : W p l e R s m args below meth c H locs 0 0 Q (F0 m (pc + 3) ls (.int x :: rest))) : W p l e R s m args below meth c H locs 0 0 Q (F0 m pc ls (.ref (g.2.2 0) :: rest)) :=
  r_get C Z (T := TX8) inlX8 rfl (oM_0 g u) (k := 13) (by decide) hl (v := .int x) (by rw [← hx]; rfl) hdg kk
theorem pM_0_13 (C : Cx p s m meth c args cc own nL ret 22 g) (Z : Zx wM g (Aw 22 g s.heap.size) s H locs u) (hl : FL s args own idx "AskedCocksModel" "facedMany" "I") {x : Int32} (hdg : decode cc pc = .ok (.putfield idx, 3)) (kk : ∀ (H : Heap) (locs : List Loc), Zx wM g (Aw 22 g s.heap.size) s H locs (sI u 3 x) → W p l e R s m args below meth c H locs 0 0 Q (F0 m (pc + 3) ls rest)) : W p l e R s m args below meth c H locs 0 0 Q (F0 m pc ls (.int x :: .ref (g.2.2 0) :: rest)) :=
  r_put C wokM Z (T := TX8) inlX8 tyX8 tyX8_ok nmX8 rfl (oM_0 g u) (k := 13) (by decide) hl rfl (ty := .int) (by decide +kernel) rfl rfl (Nat.le_of_ble_eq_true rfl) rfl hdg kk
theorem gM_0_14 (C : Cx p s m meth c args cc own nL ret 22 g) (Z : Zx wM g (Aw 22 g s.heap.size) s H locs u) (hl : FL s args own idx "AskedCocksModel" "facing" "[I") (hdg : decode cc pc = .ok (.getfield idx, 3)) (kk : W p l e R s m args below meth c H locs 0 0 Q (F0 m (pc + 3) ls (.ref (g.2.2 11) :: rest))) : W p l e R s m args below meth c H locs 0 0 Q (F0 m pc ls (.ref (g.2.2 0) :: rest)) :=
  r_get C Z (T := TX8) inlX8 rfl (oM_0 g u) (k := 14) (by decide) hl rfl hdg kk
theorem gM_0_15 (C : Cx p s m meth c args cc own nL ret 22 g) (Z : Zx wM g (Aw 22 g s.heap.size) s H locs u) (hl : FL s args own idx "AskedCocksModel" "metMany" "I") (hdg : decode cc pc = .ok (.getfield idx, 3)) {x : Int32} (hx : u.1 4 = x) (kk : W p l e R s m args below meth c H locs 0 0 Q (F0 m (pc + 3) ls (.int x :: rest))) : W p l e R s m args below meth c H locs 0 0 Q (F0 m pc ls (.ref (g.2.2 0) :: rest)) :=
  r_get C Z (T := TX8) inlX8 rfl (oM_0 g u) (k := 15) (by decide) hl (v := .int x) (by rw [← hx]; rfl) hdg kk
theorem pM_0_15 (C : Cx p s m meth c args cc own nL ret 22 g) (Z : Zx wM g (Aw 22 g s.heap.size) s H locs u) (hl : FL s args own idx "AskedCocksModel" "metMany" "I") {x : Int32} (hdg : decode cc pc = .ok (.putfield idx, 3)) (kk : ∀ (H : Heap) (locs : List Loc), Zx wM g (Aw 22 g s.heap.size) s H locs (sI u 4 x) → W p l e R s m args below meth c H locs 0 0 Q (F0 m (pc + 3) ls rest)) : W p l e R s m args below meth c H locs 0 0 Q (F0 m pc ls (.int x :: .ref (g.2.2 0) :: rest)) :=
  r_put C wokM Z (T := TX8) inlX8 tyX8 tyX8_ok nmX8 rfl (oM_0 g u) (k := 15) (by decide) hl rfl (ty := .int) (by decide +kernel) rfl rfl (Nat.le_of_ble_eq_true rfl) rfl hdg kk
theorem gM_0_16 (C : Cx p s m meth c args cc own nL ret 22 g) (Z : Zx wM g (Aw 22 g s.heap.size) s H locs u) (hl : FL s args own idx "AskedCocksModel" "meets" "[I") (hdg : decode cc pc = .ok (.getfield idx, 3)) (kk : W p l e R s m args below meth c H locs 0 0 Q (F0 m (pc + 3) ls (.ref (g.2.2 12) :: rest))) : W p l e R s m args below meth c H locs 0 0 Q (F0 m pc ls (.ref (g.2.2 0) :: rest)) :=
  r_get C Z (T := TX8) inlX8 rfl (oM_0 g u) (k := 16) (by decide) hl rfl hdg kk
theorem gM_0_17 (C : Cx p s m meth c args cc own nL ret 22 g) (Z : Zx wM g (Aw 22 g s.heap.size) s H locs u) (hl : FL s args own idx "AskedCocksModel" "trace" "J") (hdg : decode cc pc = .ok (.getfield idx, 3)) {x : Int64} (hx : u.2.2 = x) (kk : W p l e R s m args below meth c H locs 0 0 Q (F0 m (pc + 3) ls (.long x :: rest))) : W p l e R s m args below meth c H locs 0 0 Q (F0 m pc ls (.ref (g.2.2 0) :: rest)) :=
  r_get C Z (T := TX8) inlX8 rfl (oM_0 g u) (k := 17) (by decide) hl (v := .long x) (by rw [← hx]; rfl) hdg kk
theorem pM_0_17 (C : Cx p s m meth c args cc own nL ret 22 g) (Z : Zx wM g (Aw 22 g s.heap.size) s H locs u) (hl : FL s args own idx "AskedCocksModel" "trace" "J") {x : Int64} (hdg : decode cc pc = .ok (.putfield idx, 3)) (kk : ∀ (H : Heap) (locs : List Loc), Zx wM g (Aw 22 g s.heap.size) s H locs (sJ u x) → W p l e R s m args below meth c H locs 0 0 Q (F0 m (pc + 3) ls rest)) : W p l e R s m args below meth c H locs 0 0 Q (F0 m pc ls (.long x :: .ref (g.2.2 0) :: rest)) :=
  r_put C wokM Z (T := TX8) inlX8 tyX8 tyX8_ok nmX8 rfl (oM_0 g u) (k := 17) (by decide) hl rfl (ty := .long) (by decide +kernel) rfl rfl (Nat.le_of_ble_eq_true rfl) rfl hdg kk
theorem gM_0_18 (C : Cx p s m meth c args cc own nL ret 22 g) (Z : Zx wM g (Aw 22 g s.heap.size) s H locs u) (hl : FL s args own idx "AskedCocksModel" "text" "[I") (hdg : decode cc pc = .ok (.getfield idx, 3)) (kk : W p l e R s m args below meth c H locs 0 0 Q (F0 m (pc + 3) ls (.ref (g.2.2 13) :: rest))) : W p l e R s m args below meth c H locs 0 0 Q (F0 m pc ls (.ref (g.2.2 0) :: rest)) :=
  r_get C Z (T := TX8) inlX8 rfl (oM_0 g u) (k := 18) (by decide) hl rfl hdg kk
theorem gM_0_19 (C : Cx p s m meth c args cc own nL ret 22 g) (Z : Zx wM g (Aw 22 g s.heap.size) s H locs u) (hl : FL s args own idx "AskedCocksModel" "texted" "I") (hdg : decode cc pc = .ok (.getfield idx, 3)) {x : Int32} (hx : u.1 5 = x) (kk : W p l e R s m args below meth c H locs 0 0 Q (F0 m (pc + 3) ls (.int x :: rest))) : W p l e R s m args below meth c H locs 0 0 Q (F0 m pc ls (.ref (g.2.2 0) :: rest)) :=
  r_get C Z (T := TX8) inlX8 rfl (oM_0 g u) (k := 19) (by decide) hl (v := .int x) (by rw [← hx]; rfl) hdg kk
theorem pM_0_19 (C : Cx p s m meth c args cc own nL ret 22 g) (Z : Zx wM g (Aw 22 g s.heap.size) s H locs u) (hl : FL s args own idx "AskedCocksModel" "texted" "I") {x : Int32} (hdg : decode cc pc = .ok (.putfield idx, 3)) (kk : ∀ (H : Heap) (locs : List Loc), Zx wM g (Aw 22 g s.heap.size) s H locs (sI u 5 x) → W p l e R s m args below meth c H locs 0 0 Q (F0 m (pc + 3) ls rest)) : W p l e R s m args below meth c H locs 0 0 Q (F0 m pc ls (.int x :: .ref (g.2.2 0) :: rest)) :=
  r_put C wokM Z (T := TX8) inlX8 tyX8 tyX8_ok nmX8 rfl (oM_0 g u) (k := 19) (by decide) hl rfl (ty := .int) (by decide +kernel) rfl rfl (Nat.le_of_ble_eq_true rfl) rfl hdg kk
theorem gM_0_20 (C : Cx p s m meth c args cc own nL ret 22 g) (Z : Zx wM g (Aw 22 g s.heap.size) s H locs u) (hl : FL s args own idx "AskedCocksModel" "cursor" "I") (hdg : decode cc pc = .ok (.getfield idx, 3)) {x : Int32} (hx : u.1 6 = x) (kk : W p l e R s m args below meth c H locs 0 0 Q (F0 m (pc + 3) ls (.int x :: rest))) : W p l e R s m args below meth c H locs 0 0 Q (F0 m pc ls (.ref (g.2.2 0) :: rest)) :=
  r_get C Z (T := TX8) inlX8 rfl (oM_0 g u) (k := 20) (by decide) hl (v := .int x) (by rw [← hx]; rfl) hdg kk
theorem pM_0_20 (C : Cx p s m meth c args cc own nL ret 22 g) (Z : Zx wM g (Aw 22 g s.heap.size) s H locs u) (hl : FL s args own idx "AskedCocksModel" "cursor" "I") {x : Int32} (hdg : decode cc pc = .ok (.putfield idx, 3)) (kk : ∀ (H : Heap) (locs : List Loc), Zx wM g (Aw 22 g s.heap.size) s H locs (sI u 6 x) → W p l e R s m args below meth c H locs 0 0 Q (F0 m (pc + 3) ls rest)) : W p l e R s m args below meth c H locs 0 0 Q (F0 m pc ls (.int x :: .ref (g.2.2 0) :: rest)) :=
  r_put C wokM Z (T := TX8) inlX8 tyX8 tyX8_ok nmX8 rfl (oM_0 g u) (k := 20) (by decide) hl rfl (ty := .int) (by decide +kernel) rfl rfl (Nat.le_of_ble_eq_true rfl) rfl hdg kk
theorem gM_0_21 (C : Cx p s m meth c args cc own nL ret 22 g) (Z : Zx wM g (Aw 22 g s.heap.size) s H locs u) (hl : FL s args own idx "AskedCocksModel" "start" "I") (hdg : decode cc pc = .ok (.getfield idx, 3)) {x : Int32} (hx : u.1 7 = x) (kk : W p l e R s m args below meth c H locs 0 0 Q (F0 m (pc + 3) ls (.int x :: rest))) : W p l e R s m args below meth c H locs 0 0 Q (F0 m pc ls (.ref (g.2.2 0) :: rest)) :=
  r_get C Z (T := TX8) inlX8 rfl (oM_0 g u) (k := 21) (by decide) hl (v := .int x) (by rw [← hx]; rfl) hdg kk
theorem pM_0_21 (C : Cx p s m meth c args cc own nL ret 22 g) (Z : Zx wM g (Aw 22 g s.heap.size) s H locs u) (hl : FL s args own idx "AskedCocksModel" "start" "I") {x : Int32} (hdg : decode cc pc = .ok (.putfield idx, 3)) (kk : ∀ (H : Heap) (locs : List Loc), Zx wM g (Aw 22 g s.heap.size) s H locs (sI u 7 x) → W p l e R s m args below meth c H locs 0 0 Q (F0 m (pc + 3) ls rest)) : W p l e R s m args below meth c H locs 0 0 Q (F0 m pc ls (.int x :: .ref (g.2.2 0) :: rest)) :=
  r_put C wokM Z (T := TX8) inlX8 tyX8 tyX8_ok nmX8 rfl (oM_0 g u) (k := 21) (by decide) hl rfl (ty := .int) (by decide +kernel) rfl rfl (Nat.le_of_ble_eq_true rfl) rfl hdg kk
theorem gM_0_22 (C : Cx p s m meth c args cc own nL ret 22 g) (Z : Zx wM g (Aw 22 g s.heap.size) s H locs u) (hl : FL s args own idx "AskedCocksModel" "token" "I") (hdg : decode cc pc = .ok (.getfield idx, 3)) {x : Int32} (hx : u.1 8 = x) (kk : W p l e R s m args below meth c H locs 0 0 Q (F0 m (pc + 3) ls (.int x :: rest))) : W p l e R s m args below meth c H locs 0 0 Q (F0 m pc ls (.ref (g.2.2 0) :: rest)) :=
  r_get C Z (T := TX8) inlX8 rfl (oM_0 g u) (k := 22) (by decide) hl (v := .int x) (by rw [← hx]; rfl) hdg kk
theorem pM_0_22 (C : Cx p s m meth c args cc own nL ret 22 g) (Z : Zx wM g (Aw 22 g s.heap.size) s H locs u) (hl : FL s args own idx "AskedCocksModel" "token" "I") {x : Int32} (hdg : decode cc pc = .ok (.putfield idx, 3)) (kk : ∀ (H : Heap) (locs : List Loc), Zx wM g (Aw 22 g s.heap.size) s H locs (sI u 8 x) → W p l e R s m args below meth c H locs 0 0 Q (F0 m (pc + 3) ls rest)) : W p l e R s m args below meth c H locs 0 0 Q (F0 m pc ls (.int x :: .ref (g.2.2 0) :: rest)) :=
  r_put C wokM Z (T := TX8) inlX8 tyX8 tyX8_ok nmX8 rfl (oM_0 g u) (k := 22) (by decide) hl rfl (ty := .int) (by decide +kernel) rfl rfl (Nat.le_of_ble_eq_true rfl) rfl hdg kk
theorem gM_0_23 (C : Cx p s m meth c args cc own nL ret 22 g) (Z : Zx wM g (Aw 22 g s.heap.size) s H locs u) (hl : FL s args own idx "AskedCocksModel" "number" "I") (hdg : decode cc pc = .ok (.getfield idx, 3)) {x : Int32} (hx : u.1 9 = x) (kk : W p l e R s m args below meth c H locs 0 0 Q (F0 m (pc + 3) ls (.int x :: rest))) : W p l e R s m args below meth c H locs 0 0 Q (F0 m pc ls (.ref (g.2.2 0) :: rest)) :=
  r_get C Z (T := TX8) inlX8 rfl (oM_0 g u) (k := 23) (by decide) hl (v := .int x) (by rw [← hx]; rfl) hdg kk
theorem pM_0_23 (C : Cx p s m meth c args cc own nL ret 22 g) (Z : Zx wM g (Aw 22 g s.heap.size) s H locs u) (hl : FL s args own idx "AskedCocksModel" "number" "I") {x : Int32} (hdg : decode cc pc = .ok (.putfield idx, 3)) (kk : ∀ (H : Heap) (locs : List Loc), Zx wM g (Aw 22 g s.heap.size) s H locs (sI u 9 x) → W p l e R s m args below meth c H locs 0 0 Q (F0 m (pc + 3) ls rest)) : W p l e R s m args below meth c H locs 0 0 Q (F0 m pc ls (.int x :: .ref (g.2.2 0) :: rest)) :=
  r_put C wokM Z (T := TX8) inlX8 tyX8 tyX8_ok nmX8 rfl (oM_0 g u) (k := 23) (by decide) hl rfl (ty := .int) (by decide +kernel) rfl rfl (Nat.le_of_ble_eq_true rfl) rfl hdg kk
theorem gM_0_24 (C : Cx p s m meth c args cc own nL ret 22 g) (Z : Zx wM g (Aw 22 g s.heap.size) s H locs u) (hl : FL s args own idx "AskedCocksModel" "isWrong" "Z") (hdg : decode cc pc = .ok (.getfield idx, 3)) {x : Int32} (hx : u.1 10 = x) (kk : W p l e R s m args below meth c H locs 0 0 Q (F0 m (pc + 3) ls (.int x :: rest))) : W p l e R s m args below meth c H locs 0 0 Q (F0 m pc ls (.ref (g.2.2 0) :: rest)) :=
  r_get C Z (T := TX8) inlX8 rfl (oM_0 g u) (k := 24) (by decide) hl (v := .int x) (by rw [← hx]; rfl) hdg kk
theorem pM_0_24 (C : Cx p s m meth c args cc own nL ret 22 g) (Z : Zx wM g (Aw 22 g s.heap.size) s H locs u) (hl : FL s args own idx "AskedCocksModel" "isWrong" "Z") {x : Int32} (hz : nb x = true) (hdg : decode cc pc = .ok (.putfield idx, 3)) (kk : ∀ (H : Heap) (locs : List Loc), Zx wM g (Aw 22 g s.heap.size) s H locs (sI u 10 x) → W p l e R s m args below meth c H locs 0 0 Q (F0 m (pc + 3) ls rest)) : W p l e R s m args below meth c H locs 0 0 Q (F0 m pc ls (.int x :: .ref (g.2.2 0) :: rest)) :=
  r_put C wokM Z (T := TX8) inlX8 tyX8 tyX8_ok nmX8 rfl (oM_0 g u) (k := 24) (by decide) hl rfl (ty := .boolean) (by decide +kernel) (nb_nar hz) (nb_fit hz) (Nat.le_of_ble_eq_true rfl) rfl hdg kk
theorem gM_0_25 (C : Cx p s m meth c args cc own nL ret 22 g) (Z : Zx wM g (Aw 22 g s.heap.size) s H locs u) (hl : FL s args own idx "AskedCocksModel" "items" "I") (hdg : decode cc pc = .ok (.getfield idx, 3)) {x : Int32} (hx : u.1 11 = x) (kk : W p l e R s m args below meth c H locs 0 0 Q (F0 m (pc + 3) ls (.int x :: rest))) : W p l e R s m args below meth c H locs 0 0 Q (F0 m pc ls (.ref (g.2.2 0) :: rest)) :=
  r_get C Z (T := TX8) inlX8 rfl (oM_0 g u) (k := 25) (by decide) hl (v := .int x) (by rw [← hx]; rfl) hdg kk
theorem pM_0_25 (C : Cx p s m meth c args cc own nL ret 22 g) (Z : Zx wM g (Aw 22 g s.heap.size) s H locs u) (hl : FL s args own idx "AskedCocksModel" "items" "I") {x : Int32} (hdg : decode cc pc = .ok (.putfield idx, 3)) (kk : ∀ (H : Heap) (locs : List Loc), Zx wM g (Aw 22 g s.heap.size) s H locs (sI u 11 x) → W p l e R s m args below meth c H locs 0 0 Q (F0 m (pc + 3) ls rest)) : W p l e R s m args below meth c H locs 0 0 Q (F0 m pc ls (.int x :: .ref (g.2.2 0) :: rest)) :=
  r_put C wokM Z (T := TX8) inlX8 tyX8 tyX8_ok nmX8 rfl (oM_0 g u) (k := 25) (by decide) hl rfl (ty := .int) (by decide +kernel) rfl rfl (Nat.le_of_ble_eq_true rfl) rfl hdg kk
theorem gM_0_26 (C : Cx p s m meth c args cc own nL ret 22 g) (Z : Zx wM g (Aw 22 g s.heap.size) s H locs u) (hl : FL s args own idx "AskedCocksModel" "saidRoof" "[I") (hdg : decode cc pc = .ok (.getfield idx, 3)) (kk : W p l e R s m args below meth c H locs 0 0 Q (F0 m (pc + 3) ls (.ref (g.2.2 14) :: rest))) : W p l e R s m args below meth c H locs 0 0 Q (F0 m pc ls (.ref (g.2.2 0) :: rest)) :=
  r_get C Z (T := TX8) inlX8 rfl (oM_0 g u) (k := 26) (by decide) hl rfl hdg kk
theorem gM_0_27 (C : Cx p s m meth c args cc own nL ret 22 g) (Z : Zx wM g (Aw 22 g s.heap.size) s H locs u) (hl : FL s args own idx "AskedCocksModel" "saidCocks" "I") (hdg : decode cc pc = .ok (.getfield idx, 3)) {x : Int32} (hx : u.1 12 = x) (kk : W p l e R s m args below meth c H locs 0 0 Q (F0 m (pc + 3) ls (.int x :: rest))) : W p l e R s m args below meth c H locs 0 0 Q (F0 m pc ls (.ref (g.2.2 0) :: rest)) :=
  r_get C Z (T := TX8) inlX8 rfl (oM_0 g u) (k := 27) (by decide) hl (v := .int x) (by rw [← hx]; rfl) hdg kk
theorem pM_0_27 (C : Cx p s m meth c args cc own nL ret 22 g) (Z : Zx wM g (Aw 22 g s.heap.size) s H locs u) (hl : FL s args own idx "AskedCocksModel" "saidCocks" "I") {x : Int32} (hdg : decode cc pc = .ok (.putfield idx, 3)) (kk : ∀ (H : Heap) (locs : List Loc), Zx wM g (Aw 22 g s.heap.size) s H locs (sI u 12 x) → W p l e R s m args below meth c H locs 0 0 Q (F0 m (pc + 3) ls rest)) : W p l e R s m args below meth c H locs 0 0 Q (F0 m pc ls (.int x :: .ref (g.2.2 0) :: rest)) :=
  r_put C wokM Z (T := TX8) inlX8 tyX8 tyX8_ok nmX8 rfl (oM_0 g u) (k := 27) (by decide) hl rfl (ty := .int) (by decide +kernel) rfl rfl (Nat.le_of_ble_eq_true rfl) rfl hdg kk
theorem gM_0_28 (C : Cx p s m meth c args cc own nL ret 22 g) (Z : Zx wM g (Aw 22 g s.heap.size) s H locs u) (hl : FL s args own idx "AskedCocksModel" "saidPlace" "[I") (hdg : decode cc pc = .ok (.getfield idx, 3)) (kk : W p l e R s m args below meth c H locs 0 0 Q (F0 m (pc + 3) ls (.ref (g.2.2 15) :: rest))) : W p l e R s m args below meth c H locs 0 0 Q (F0 m pc ls (.ref (g.2.2 0) :: rest)) :=
  r_get C Z (T := TX8) inlX8 rfl (oM_0 g u) (k := 28) (by decide) hl rfl hdg kk
theorem gM_0_29 (C : Cx p s m meth c args cc own nL ret 22 g) (Z : Zx wM g (Aw 22 g s.heap.size) s H locs u) (hl : FL s args own idx "AskedCocksModel" "saidRise" "[I") (hdg : decode cc pc = .ok (.getfield idx, 3)) (kk : W p l e R s m args below meth c H locs 0 0 Q (F0 m (pc + 3) ls (.ref (g.2.2 16) :: rest))) : W p l e R s m args below meth c H locs 0 0 Q (F0 m pc ls (.ref (g.2.2 0) :: rest)) :=
  r_get C Z (T := TX8) inlX8 rfl (oM_0 g u) (k := 29) (by decide) hl rfl hdg kk
theorem gM_0_30 (C : Cx p s m meth c args cc own nL ret 22 g) (Z : Zx wM g (Aw 22 g s.heap.size) s H locs u) (hl : FL s args own idx "AskedCocksModel" "saidSide" "[I") (hdg : decode cc pc = .ok (.getfield idx, 3)) (kk : W p l e R s m args below meth c H locs 0 0 Q (F0 m (pc + 3) ls (.ref (g.2.2 17) :: rest))) : W p l e R s m args below meth c H locs 0 0 Q (F0 m pc ls (.ref (g.2.2 0) :: rest)) :=
  r_get C Z (T := TX8) inlX8 rfl (oM_0 g u) (k := 30) (by decide) hl rfl hdg kk
theorem gM_0_31 (C : Cx p s m meth c args cc own nL ret 22 g) (Z : Zx wM g (Aw 22 g s.heap.size) s H locs u) (hl : FL s args own idx "AskedCocksModel" "saidTurn" "[I") (hdg : decode cc pc = .ok (.getfield idx, 3)) (kk : W p l e R s m args below meth c H locs 0 0 Q (F0 m (pc + 3) ls (.ref (g.2.2 18) :: rest))) : W p l e R s m args below meth c H locs 0 0 Q (F0 m pc ls (.ref (g.2.2 0) :: rest)) :=
  r_get C Z (T := TX8) inlX8 rfl (oM_0 g u) (k := 31) (by decide) hl rfl hdg kk
theorem gM_0_32 (C : Cx p s m meth c args cc own nL ret 22 g) (Z : Zx wM g (Aw 22 g s.heap.size) s H locs u) (hl : FL s args own idx "AskedCocksModel" "saidPeople" "I") (hdg : decode cc pc = .ok (.getfield idx, 3)) {x : Int32} (hx : u.1 13 = x) (kk : W p l e R s m args below meth c H locs 0 0 Q (F0 m (pc + 3) ls (.int x :: rest))) : W p l e R s m args below meth c H locs 0 0 Q (F0 m pc ls (.ref (g.2.2 0) :: rest)) :=
  r_get C Z (T := TX8) inlX8 rfl (oM_0 g u) (k := 32) (by decide) hl (v := .int x) (by rw [← hx]; rfl) hdg kk
theorem pM_0_32 (C : Cx p s m meth c args cc own nL ret 22 g) (Z : Zx wM g (Aw 22 g s.heap.size) s H locs u) (hl : FL s args own idx "AskedCocksModel" "saidPeople" "I") {x : Int32} (hdg : decode cc pc = .ok (.putfield idx, 3)) (kk : ∀ (H : Heap) (locs : List Loc), Zx wM g (Aw 22 g s.heap.size) s H locs (sI u 13 x) → W p l e R s m args below meth c H locs 0 0 Q (F0 m (pc + 3) ls rest)) : W p l e R s m args below meth c H locs 0 0 Q (F0 m pc ls (.int x :: .ref (g.2.2 0) :: rest)) :=
  r_put C wokM Z (T := TX8) inlX8 tyX8 tyX8_ok nmX8 rfl (oM_0 g u) (k := 32) (by decide) hl rfl (ty := .int) (by decide +kernel) rfl rfl (Nat.le_of_ble_eq_true rfl) rfl hdg kk
theorem gM_0_33 (C : Cx p s m meth c args cc own nL ret 22 g) (Z : Zx wM g (Aw 22 g s.heap.size) s H locs u) (hl : FL s args own idx "AskedCocksModel" "saidStart" "[I") (hdg : decode cc pc = .ok (.getfield idx, 3)) (kk : W p l e R s m args below meth c H locs 0 0 Q (F0 m (pc + 3) ls (.ref (g.2.2 19) :: rest))) : W p l e R s m args below meth c H locs 0 0 Q (F0 m pc ls (.ref (g.2.2 0) :: rest)) :=
  r_get C Z (T := TX8) inlX8 rfl (oM_0 g u) (k := 33) (by decide) hl rfl hdg kk
theorem gM_0_34 (C : Cx p s m meth c args cc own nL ret 22 g) (Z : Zx wM g (Aw 22 g s.heap.size) s H locs u) (hl : FL s args own idx "AskedCocksModel" "saidSpeed" "[I") (hdg : decode cc pc = .ok (.getfield idx, 3)) (kk : W p l e R s m args below meth c H locs 0 0 Q (F0 m (pc + 3) ls (.ref (g.2.2 20) :: rest))) : W p l e R s m args below meth c H locs 0 0 Q (F0 m pc ls (.ref (g.2.2 0) :: rest)) :=
  r_get C Z (T := TX8) inlX8 rfl (oM_0 g u) (k := 34) (by decide) hl rfl hdg kk
theorem gM_0_35 (C : Cx p s m meth c args cc own nL ret 22 g) (Z : Zx wM g (Aw 22 g s.heap.size) s H locs u) (hl : FL s args own idx "AskedCocksModel" "saidSmokes" "I") (hdg : decode cc pc = .ok (.getfield idx, 3)) {x : Int32} (hx : u.1 14 = x) (kk : W p l e R s m args below meth c H locs 0 0 Q (F0 m (pc + 3) ls (.int x :: rest))) : W p l e R s m args below meth c H locs 0 0 Q (F0 m pc ls (.ref (g.2.2 0) :: rest)) :=
  r_get C Z (T := TX8) inlX8 rfl (oM_0 g u) (k := 35) (by decide) hl (v := .int x) (by rw [← hx]; rfl) hdg kk
theorem pM_0_35 (C : Cx p s m meth c args cc own nL ret 22 g) (Z : Zx wM g (Aw 22 g s.heap.size) s H locs u) (hl : FL s args own idx "AskedCocksModel" "saidSmokes" "I") {x : Int32} (hdg : decode cc pc = .ok (.putfield idx, 3)) (kk : ∀ (H : Heap) (locs : List Loc), Zx wM g (Aw 22 g s.heap.size) s H locs (sI u 14 x) → W p l e R s m args below meth c H locs 0 0 Q (F0 m (pc + 3) ls rest)) : W p l e R s m args below meth c H locs 0 0 Q (F0 m pc ls (.int x :: .ref (g.2.2 0) :: rest)) :=
  r_put C wokM Z (T := TX8) inlX8 tyX8 tyX8_ok nmX8 rfl (oM_0 g u) (k := 35) (by decide) hl rfl (ty := .int) (by decide +kernel) rfl rfl (Nat.le_of_ble_eq_true rfl) rfl hdg kk
theorem gM_0_36 (C : Cx p s m meth c args cc own nL ret 22 g) (Z : Zx wM g (Aw 22 g s.heap.size) s H locs u) (hl : FL s args own idx "AskedCocksModel" "saidSmoke" "[I") (hdg : decode cc pc = .ok (.getfield idx, 3)) (kk : W p l e R s m args below meth c H locs 0 0 Q (F0 m (pc + 3) ls (.ref (g.2.2 21) :: rest))) : W p l e R s m args below meth c H locs 0 0 Q (F0 m pc ls (.ref (g.2.2 0) :: rest)) :=
  r_get C Z (T := TX8) inlX8 rfl (oM_0 g u) (k := 36) (by decide) hl rfl hdg kk
theorem aM_1 (g : Gx) (u : St) {f : Nat → Int32} (hf : u.2.1 0 = f) : (wM g u)[1]? = some (g.2.2 1, .inl (g.2.1.1, 5, .inl f)) := hf ▸ rfl
theorem sM_1 (g : Gx) (u : St) (f : Nat → Int32) : (wM g u).set 1 (g.2.2 1, .inl (g.2.1.1, 5, .inl f)) = wM g (sA u 0 f) := rfl
theorem aM_2 (g : Gx) (u : St) {f : Nat → Int32} (hf : u.2.1 1 = f) : (wM g u)[2]? = some (g.2.2 2, .inl (g.2.1.1, 5, .inl f)) := hf ▸ rfl
theorem sM_2 (g : Gx) (u : St) (f : Nat → Int32) : (wM g u).set 2 (g.2.2 2, .inl (g.2.1.1, 5, .inl f)) = wM g (sA u 1 f) := rfl
theorem aM_3 (g : Gx) (u : St) {f : Nat → Int32} (hf : u.2.1 2 = f) : (wM g u)[3]? = some (g.2.2 3, .inl (g.2.1.1, 5, .inl f)) := hf ▸ rfl
theorem sM_3 (g : Gx) (u : St) (f : Nat → Int32) : (wM g u).set 3 (g.2.2 3, .inl (g.2.1.1, 5, .inl f)) = wM g (sA u 2 f) := rfl
theorem aM_4 (g : Gx) (u : St) {f : Nat → Int32} (hf : u.2.1 3 = f) : (wM g u)[4]? = some (g.2.2 4, .inl (g.2.1.1, 5, .inl f)) := hf ▸ rfl
theorem sM_4 (g : Gx) (u : St) (f : Nat → Int32) : (wM g u).set 4 (g.2.2 4, .inl (g.2.1.1, 5, .inl f)) = wM g (sA u 3 f) := rfl
theorem aM_5 (g : Gx) (u : St) {f : Nat → Int32} (hf : u.2.1 4 = f) : (wM g u)[5]? = some (g.2.2 5, .inl (g.2.1.1, 4, .inl f)) := hf ▸ rfl
theorem sM_5 (g : Gx) (u : St) (f : Nat → Int32) : (wM g u).set 5 (g.2.2 5, .inl (g.2.1.1, 4, .inl f)) = wM g (sA u 4 f) := rfl
theorem aM_6 (g : Gx) (u : St) {f : Nat → Int32} (hf : u.2.1 5 = f) : (wM g u)[6]? = some (g.2.2 6, .inl (g.2.1.1, 4, .inl f)) := hf ▸ rfl
theorem sM_6 (g : Gx) (u : St) (f : Nat → Int32) : (wM g u).set 6 (g.2.2 6, .inl (g.2.1.1, 4, .inl f)) = wM g (sA u 5 f) := rfl
theorem aM_7 (g : Gx) (u : St) {f : Nat → Int32} (hf : u.2.1 6 = f) : (wM g u)[7]? = some (g.2.2 7, .inl (g.2.1.1, 12, .inl f)) := hf ▸ rfl
theorem sM_7 (g : Gx) (u : St) (f : Nat → Int32) : (wM g u).set 7 (g.2.2 7, .inl (g.2.1.1, 12, .inl f)) = wM g (sA u 6 f) := rfl
theorem aM_8 (g : Gx) (u : St) {f : Nat → Int32} (hf : u.2.1 7 = f) : (wM g u)[8]? = some (g.2.2 8, .inl (g.2.1.1, 507, .inl f)) := hf ▸ rfl
theorem sM_8 (g : Gx) (u : St) (f : Nat → Int32) : (wM g u).set 8 (g.2.2 8, .inl (g.2.1.1, 507, .inl f)) = wM g (sA u 7 f) := rfl
theorem aM_9 (g : Gx) (u : St) {f : Nat → Int32} (hf : u.2.1 8 = f) : (wM g u)[9]? = some (g.2.2 9, .inl (g.2.1.1, 1014, .inl f)) := hf ▸ rfl
theorem sM_9 (g : Gx) (u : St) (f : Nat → Int32) : (wM g u).set 9 (g.2.2 9, .inl (g.2.1.1, 1014, .inl f)) = wM g (sA u 8 f) := rfl
theorem aM_10 (g : Gx) (u : St) {f : Nat → Int32} (hf : u.2.1 9 = f) : (wM g u)[10]? = some (g.2.2 10, .inl (g.2.1.2.2.2, 2, .inl f)) := hf ▸ rfl
theorem sM_10 (g : Gx) (u : St) (f : Nat → Int32) : (wM g u).set 10 (g.2.2 10, .inl (g.2.1.2.2.2, 2, .inl f)) = wM g (sA u 9 f) := rfl
theorem aM_11 (g : Gx) (u : St) {f : Nat → Int32} (hf : u.2.1 10 = f) : (wM g u)[11]? = some (g.2.2 11, .inl (g.2.1.1, 12, .inl f)) := hf ▸ rfl
theorem sM_11 (g : Gx) (u : St) (f : Nat → Int32) : (wM g u).set 11 (g.2.2 11, .inl (g.2.1.1, 12, .inl f)) = wM g (sA u 10 f) := rfl
theorem aM_12 (g : Gx) (u : St) {f : Nat → Int32} (hf : u.2.1 11 = f) : (wM g u)[12]? = some (g.2.2 12, .inl (g.2.1.1, 12, .inl f)) := hf ▸ rfl
theorem sM_12 (g : Gx) (u : St) (f : Nat → Int32) : (wM g u).set 12 (g.2.2 12, .inl (g.2.1.1, 12, .inl f)) = wM g (sA u 11 f) := rfl
theorem aM_13 (g : Gx) (u : St) {f : Nat → Int32} (hf : u.2.1 12 = f) : (wM g u)[13]? = some (g.2.2 13, .inl (g.2.1.1, 150, .inl f)) := hf ▸ rfl
theorem sM_13 (g : Gx) (u : St) (f : Nat → Int32) : (wM g u).set 13 (g.2.2 13, .inl (g.2.1.1, 150, .inl f)) = wM g (sA u 12 f) := rfl
theorem aM_14 (g : Gx) (u : St) {f : Nat → Int32} (hf : u.2.1 13 = f) : (wM g u)[14]? = some (g.2.2 14, .inl (g.2.1.1, 24, .inl f)) := hf ▸ rfl
theorem sM_14 (g : Gx) (u : St) (f : Nat → Int32) : (wM g u).set 14 (g.2.2 14, .inl (g.2.1.1, 24, .inl f)) = wM g (sA u 13 f) := rfl
theorem aM_15 (g : Gx) (u : St) {f : Nat → Int32} (hf : u.2.1 14 = f) : (wM g u)[15]? = some (g.2.2 15, .inl (g.2.1.1, 5, .inl f)) := hf ▸ rfl
theorem sM_15 (g : Gx) (u : St) (f : Nat → Int32) : (wM g u).set 15 (g.2.2 15, .inl (g.2.1.1, 5, .inl f)) = wM g (sA u 14 f) := rfl
theorem aM_16 (g : Gx) (u : St) {f : Nat → Int32} (hf : u.2.1 15 = f) : (wM g u)[16]? = some (g.2.2 16, .inl (g.2.1.1, 5, .inl f)) := hf ▸ rfl
theorem sM_16 (g : Gx) (u : St) (f : Nat → Int32) : (wM g u).set 16 (g.2.2 16, .inl (g.2.1.1, 5, .inl f)) = wM g (sA u 15 f) := rfl
theorem aM_17 (g : Gx) (u : St) {f : Nat → Int32} (hf : u.2.1 16 = f) : (wM g u)[17]? = some (g.2.2 17, .inl (g.2.1.1, 5, .inl f)) := hf ▸ rfl
theorem sM_17 (g : Gx) (u : St) (f : Nat → Int32) : (wM g u).set 17 (g.2.2 17, .inl (g.2.1.1, 5, .inl f)) = wM g (sA u 16 f) := rfl
theorem aM_18 (g : Gx) (u : St) {f : Nat → Int32} (hf : u.2.1 17 = f) : (wM g u)[18]? = some (g.2.2 18, .inl (g.2.1.1, 5, .inl f)) := hf ▸ rfl
theorem sM_18 (g : Gx) (u : St) (f : Nat → Int32) : (wM g u).set 18 (g.2.2 18, .inl (g.2.1.1, 5, .inl f)) = wM g (sA u 17 f) := rfl
theorem aM_19 (g : Gx) (u : St) {f : Nat → Int32} (hf : u.2.1 18 = f) : (wM g u)[19]? = some (g.2.2 19, .inl (g.2.1.1, 4, .inl f)) := hf ▸ rfl
theorem sM_19 (g : Gx) (u : St) (f : Nat → Int32) : (wM g u).set 19 (g.2.2 19, .inl (g.2.1.1, 4, .inl f)) = wM g (sA u 18 f) := rfl
theorem aM_20 (g : Gx) (u : St) {f : Nat → Int32} (hf : u.2.1 19 = f) : (wM g u)[20]? = some (g.2.2 20, .inl (g.2.1.1, 4, .inl f)) := hf ▸ rfl
theorem sM_20 (g : Gx) (u : St) (f : Nat → Int32) : (wM g u).set 20 (g.2.2 20, .inl (g.2.1.1, 4, .inl f)) = wM g (sA u 19 f) := rfl
theorem aM_21 (g : Gx) (u : St) {f : Nat → Int32} (hf : u.2.1 20 = f) : (wM g u)[21]? = some (g.2.2 21, .inl (g.2.1.1, 12, .inl f)) := hf ▸ rfl
theorem sM_21 (g : Gx) (u : St) (f : Nat → Int32) : (wM g u).set 21 (g.2.2 21, .inl (g.2.1.1, 12, .inl f)) = wM g (sA u 20 f) := rfl
end WORLD
