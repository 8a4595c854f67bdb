def F_Stack : u_T := fun k => match k with
  | 0 => ("PageScribe$Row", "kinds", "[I", true)
  | 1 => ("PageScribe$Row", "numbers", "[I", true)
  | 2 => ("PageScribe$Row", "reals", "[D", true)
  | _ => ("PageScribe$Row", "size", "I", false)
def t_Stack : Nat → FieldType := fun k => match k with
  | 0 => .array .int
  | 1 => .array .int
  | 2 => .array .double
  | _ => .int
def F_Words : u_T := fun k => match k with
  | 0 => ("PageScribe$Words", "letters", "[C", true)
  | 1 => ("PageScribe$Words", "lengths", "[I", true)
  | _ => ("PageScribe$Words", "count", "I", false)
def t_Words : Nat → FieldType := fun k => match k with
  | 0 => .array .char
  | 1 => .array .int
  | _ => .int
def F_Memory : u_T := fun k => match k with
  | 0 => ("PageScribe$Memory", "stack", "LPageScribe$Stack;", true)
  | 1 => ("PageScribe$Memory", "store", "LPageScribe$Store;", true)
  | 2 => ("PageScribe$Memory", "scopes", "[I", true)
  | 3 => ("PageScribe$Memory", "scopeCount", "I", false)
  | 4 => ("PageScribe$Memory", "kept", "[LPageScribe$Store;", true)
  | 5 => ("PageScribe$Memory", "keptNumbers", "[I", true)
  | 6 => ("PageScribe$Memory", "openSaves", "I", false)
  | _ => ("PageScribe$Memory", "savesMade", "I", false)
def t_Memory : Nat → FieldType := fun k => match k with
  | 0 => .object "PageScribe$Stack"
  | 1 => .object "PageScribe$Store"
  | 2 => .array .int
  | 3 => .int
  | 4 => .array (.object "PageScribe$Store")
  | 5 => .array .int
  | 6 => .int
  | _ => .int
def F_Store : u_T := fun k => match k with
  | 0 => ("PageScribe$Store", "cells", "LPageScribe$Row;", true)
  | 1 => ("PageScribe$Store", "rooms", "[I", true)
  | 2 => ("PageScribe$Store", "counts", "[I", true)
  | 3 => ("PageScribe$Store", "names", "[I", true)
  | _ => ("PageScribe$Store", "values", "LPageScribe$Row;", true)
def t_Store : Nat → FieldType := fun k => match k with
  | 0 => .object "PageScribe$Row"
  | 1 => .array .int
  | 2 => .array .int
  | 3 => .array .int
  | _ => .object "PageScribe$Row"
def F_Row : u_T := fun k => match k with
  | 0 => ("PageScribe$Row", "kinds", "[I", true)
  | 1 => ("PageScribe$Row", "numbers", "[I", true)
  | 2 => ("PageScribe$Row", "reals", "[D", true)
  | _ => ("PageScribe$Row", "size", "I", false)
def t_Row : Nat → FieldType := fun k => match k with
  | 0 => .array .int
  | 1 => .array .int
  | 2 => .array .double
  | _ => .int
def F_Reader : u_T := fun k => match k with
  | 0 => ("PageScribe$Reader", "words", "LPageScribe$Words;", true)
  | 1 => ("PageScribe$Reader", "store", "LPageScribe$Store;", true)
  | 2 => ("PageScribe$Reader", "text", "[C", true)
  | 3 => ("PageScribe$Reader", "length", "I", false)
  | 4 => ("PageScribe$Reader", "place", "I", false)
  | 5 => ("PageScribe$Reader", "tokenKind", "I", false)
  | 6 => ("PageScribe$Reader", "tokenNumber", "I", false)
  | 7 => ("PageScribe$Reader", "tokenReal", "D", false)
  | 8 => ("PageScribe$Reader", "gathered", "LPageScribe$Row;", true)
  | _ => ("PageScribe$Reader", "begins", "[I", true)
def t_Reader : Nat → FieldType := fun k => match k with
  | 0 => .object "PageScribe$Words"
  | 1 => .object "PageScribe$Store"
  | 2 => .array .char
  | 3 => .int
  | 4 => .int
  | 5 => .int
  | 6 => .int
  | 7 => .double
  | 8 => .object "PageScribe$Row"
  | _ => .array .int
def F_Canvas : u_T := fun k => match k with
  | 0 => ("PageScribe$Canvas", "stack", "LPageScribe$Stack;", true)
  | 1 => ("PageScribe$Canvas", "columns", "I", true)
  | 2 => ("PageScribe$Canvas", "rows", "I", true)
  | 3 => ("PageScribe$Canvas", "levels", "[I", true)
  | 4 => ("PageScribe$Canvas", "gray", "F", false)
  | 5 => ("PageScribe$Canvas", "across", "[D", true)
  | 6 => ("PageScribe$Canvas", "along", "[D", true)
  | 7 => ("PageScribe$Canvas", "begins", "[I", true)
  | _ => ("PageScribe$Canvas", "points", "I", false)
def t_Canvas : Nat → FieldType := fun k => match k with
  | 0 => .object "PageScribe$Stack"
  | 1 => .int
  | 2 => .int
  | 3 => .array .int
  | 4 => .float
  | 5 => .array .double
  | 6 => .array .double
  | 7 => .array .int
  | _ => .int
def F_Engine : u_T := fun k => match k with
  | 0 => ("PageScribe$Engine", "stack", "LPageScribe$Stack;", true)
  | 1 => ("PageScribe$Engine", "memory", "LPageScribe$Memory;", true)
  | 2 => ("PageScribe$Engine", "canvas", "LPageScribe$Canvas;", true)
  | 3 => ("PageScribe$Engine", "sums", "LPageScribe$Sums;", true)
  | 4 => ("PageScribe$Engine", "truths", "LPageScribe$Truths;", true)
  | 5 => ("PageScribe$Engine", "fuelGiven", "I", false)
  | 6 => ("PageScribe$Engine", "stepsDone", "I", false)
  | 7 => ("PageScribe$Engine", "latestFault", "I", false)
  | 8 => ("PageScribe$Engine", "underWay", "I", false)
  | 9 => ("PageScribe$Engine", "reach", "I", false)
  | _ => ("PageScribe$Engine", "loops", "I", false)
def t_Engine : Nat → FieldType := fun k => match k with
  | 0 => .object "PageScribe$Stack"
  | 1 => .object "PageScribe$Memory"
  | 2 => .object "PageScribe$Canvas"
  | 3 => .object "PageScribe$Sums"
  | 4 => .object "PageScribe$Truths"
  | 5 => .int
  | 6 => .int
  | 7 => .int
  | 8 => .int
  | 9 => .int
  | _ => .int
def F_Sums : u_T := fun k => match k with
  | _ => ("PageScribe$Sums", "stack", "LPageScribe$Stack;", true)
def t_Sums : Nat → FieldType := fun k => match k with
  | _ => .object "PageScribe$Stack"
def F_Truths : u_T := fun k => match k with
  | _ => ("PageScribe$Truths", "stack", "LPageScribe$Stack;", true)
def t_Truths : Nat → FieldType := fun k => match k with
  | _ => .object "PageScribe$Stack"
def F_Ps : u_T := fun k => match k with
  | 0 => ("PageScribe", "stack", "LPageScribe$Stack;", true)
  | 1 => ("PageScribe", "words", "LPageScribe$Words;", true)
  | 2 => ("PageScribe", "memory", "LPageScribe$Memory;", true)
  | 3 => ("PageScribe", "reader", "LPageScribe$Reader;", true)
  | 4 => ("PageScribe", "canvas", "LPageScribe$Canvas;", true)
  | _ => ("PageScribe", "engine", "LPageScribe$Engine;", true)
def t_Ps : Nat → FieldType := fun k => match k with
  | 0 => .object "PageScribe$Stack"
  | 1 => .object "PageScribe$Words"
  | 2 => .object "PageScribe$Memory"
  | 3 => .object "PageScribe$Reader"
  | 4 => .object "PageScribe$Canvas"
  | _ => .object "PageScribe$Engine"
def F_Mo : u_T := fun k => match k with
  | 0 => ("PageScribeModel", "thrown", "I", false)
  | 1 => ("PageScribeModel", "kinds", "[I", true)
  | 2 => ("PageScribeModel", "codes", "[J", true)
  | 3 => ("PageScribeModel", "reals", "[D", true)
  | 4 => ("PageScribeModel", "size", "I", false)
  | 5 => ("PageScribeModel", "taken", "I", false)
  | 6 => ("PageScribeModel", "words", "[J", true)
  | 7 => ("PageScribeModel", "many", "[I", true)
  | 8 => ("PageScribeModel", "room", "[I", true)
  | 9 => ("PageScribeModel", "dicts", "[I", true)
  | 10 => ("PageScribeModel", "deep", "I", false)
  | 11 => ("PageScribeModel", "saves", "I", false)
  | 12 => ("PageScribeModel", "open", "I", false)
  | 13 => ("PageScribeModel", "numbers", "[I", true)
  | 14 => ("PageScribeModel", "cells", "[I", true)
  | 15 => ("PageScribeModel", "frames", "I", false)
  | 16 => ("PageScribeModel", "under", "I", false)
  | 17 => ("PageScribeModel", "what", "[I", true)
  | 18 => ("PageScribeModel", "array", "[J", true)
  | 19 => ("PageScribeModel", "far", "[I", true)
  | 20 => ("PageScribeModel", "value", "[J", true)
  | 21 => ("PageScribeModel", "grows", "[J", true)
  | 22 => ("PageScribeModel", "last", "[J", true)
  | 23 => ("PageScribeModel", "text", "[C", true)
  | 24 => ("PageScribeModel", "length", "I", false)
  | 25 => ("PageScribeModel", "at", "I", false)
  | 26 => ("PageScribeModel", "pending", "I", false)
  | 27 => ("PageScribeModel", "level", "I", false)
  | 28 => ("PageScribeModel", "starts", "[I", true)
  | 29 => ("PageScribeModel", "known", "[J", true)
  | 30 => ("PageScribeModel", "knows", "I", false)
  | 31 => ("PageScribeModel", "fuel", "I", false)
  | 32 => ("PageScribeModel", "steps", "I", false)
  | 33 => ("PageScribeModel", "failure", "I", false)
  | 34 => ("PageScribeModel", "columns", "I", true)
  | 35 => ("PageScribeModel", "rows", "I", true)
  | 36 => ("PageScribeModel", "pixels", "[I", true)
  | 37 => ("PageScribeModel", "gray", "F", false)
  | 38 => ("PageScribeModel", "across", "[D", true)
  | 39 => ("PageScribeModel", "along", "[D", true)
  | 40 => ("PageScribeModel", "part", "[I", true)
  | 41 => ("PageScribeModel", "points", "I", false)
  | 42 => ("PageScribeModel", "patterns", "[I", true)
  | 43 => ("PageScribeModel", "early", "[J", true)
  | _ => ("PageScribeModel", "late", "[J", true)
def t_Mo : Nat → FieldType := fun k => match k with
  | 0 => .int
  | 1 => .array .int
  | 2 => .array .long
  | 3 => .array .double
  | 4 => .int
  | 5 => .int
  | 6 => .array .long
  | 7 => .array .int
  | 8 => .array .int
  | 9 => .array .int
  | 10 => .int
  | 11 => .int
  | 12 => .int
  | 13 => .array .int
  | 14 => .array .int
  | 15 => .int
  | 16 => .int
  | 17 => .array .int
  | 18 => .array .long
  | 19 => .array .int
  | 20 => .array .long
  | 21 => .array .long
  | 22 => .array .long
  | 23 => .array .char
  | 24 => .int
  | 25 => .int
  | 26 => .int
  | 27 => .int
  | 28 => .array .int
  | 29 => .array .long
  | 30 => .int
  | 31 => .int
  | 32 => .int
  | 33 => .int
  | 34 => .int
  | 35 => .int
  | 36 => .array .int
  | 37 => .float
  | 38 => .array .double
  | 39 => .array .double
  | 40 => .array .int
  | 41 => .int
  | 42 => .array .int
  | 43 => .array .long
  | _ => .array .long
abbrev classes : List vw_C := [("PageScribe$Stack", F_Stack, 4), ("PageScribe$Words", F_Words, 3), ("PageScribe$Memory", F_Memory, 8), ("PageScribe$Store", F_Store, 5), ("PageScribe$Row", F_Row, 4), ("PageScribe$Reader", F_Reader, 10), ("PageScribe$Canvas", F_Canvas, 9), ("PageScribe$Engine", F_Engine, 11), ("PageScribe$Sums", F_Sums, 1), ("PageScribe$Truths", F_Truths, 1), ("PageScribe", F_Ps, 6), ("PageScribeModel", F_Mo, 45)]
