abbrev tyl (cI cC cZ cB cJ : ClassId) : List (ClassId × FieldType) := [(cI, .int), (cC, .char), (cZ, .boolean), (cB, .byte), (cJ, .long)]
